/-! what the bytes say -/
theorem d_M_allowed_0 : decode c_M_allowed 0 = .ok (.aload_n 0, 1) := by decide +kernel
theorem d_M_allowed_1 : decode c_M_allowed 1 = .ok (.getfield 47, 3) := by decide +kernel
theorem d_M_allowed_4 : decode c_M_allowed 4 = .ok (.iload_n 1, 1) := by decide +kernel
theorem d_M_allowed_5 : decode c_M_allowed 5 = .ok (.iaload, 1) := by decide +kernel
theorem d_M_allowed_6 : decode c_M_allowed 6 = .ok (.i2l, 1) := by decide +kernel
theorem d_M_allowed_7 : decode c_M_allowed 7 = .ok (.aload_n 0, 1) := by decide +kernel
theorem d_M_allowed_8 : decode c_M_allowed 8 = .ok (.getfield 147, 3) := by decide +kernel
theorem d_M_allowed_11 : decode c_M_allowed 11 = .ok (.lsub, 1) := by decide +kernel
theorem d_M_allowed_12 : decode c_M_allowed 12 = .ok (.lload_n 2, 1) := by decide +kernel
theorem d_M_allowed_13 : decode c_M_allowed 13 = .ok (.lcmp, 1) := by decide +kernel
theorem d_M_allowed_14 : decode c_M_allowed 14 = .ok (.ifCond .ge 18, 3) := by decide +kernel
theorem d_M_allowed_17 : decode c_M_allowed 17 = .ok (.aload_n 0, 1) := by decide +kernel
theorem d_M_allowed_18 : decode c_M_allowed 18 = .ok (.getfield 47, 3) := by decide +kernel
theorem d_M_allowed_21 : decode c_M_allowed 21 = .ok (.iload_n 1, 1) := by decide +kernel
theorem d_M_allowed_22 : decode c_M_allowed 22 = .ok (.iaload, 1) := by decide +kernel
theorem d_M_allowed_23 : decode c_M_allowed 23 = .ok (.i2l, 1) := by decide +kernel
theorem d_M_allowed_24 : decode c_M_allowed 24 = .ok (.aload_n 0, 1) := by decide +kernel
theorem d_M_allowed_25 : decode c_M_allowed 25 = .ok (.getfield 147, 3) := by decide +kernel
theorem d_M_allowed_28 : decode c_M_allowed 28 = .ok (.lsub, 1) := by decide +kernel
theorem d_M_allowed_29 : decode c_M_allowed 29 = .ok (.goto 4, 3) := by decide +kernel
theorem d_M_allowed_32 : decode c_M_allowed 32 = .ok (.lload_n 2, 1) := by decide +kernel
theorem d_M_allowed_33 : decode c_M_allowed 33 = .ok (.lstore 4, 2) := by decide +kernel
theorem d_M_allowed_35 : decode c_M_allowed 35 = .ok (.aload_n 0, 1) := by decide +kernel
theorem d_M_allowed_36 : decode c_M_allowed 36 = .ok (.dup, 1) := by decide +kernel
theorem d_M_allowed_37 : decode c_M_allowed 37 = .ok (.getfield 147, 3) := by decide +kernel
theorem d_M_allowed_40 : decode c_M_allowed 40 = .ok (.lload 4, 2) := by decide +kernel
theorem d_M_allowed_42 : decode c_M_allowed 42 = .ok (.ladd, 1) := by decide +kernel
theorem d_M_allowed_43 : decode c_M_allowed 43 = .ok (.putfield 147, 3) := by decide +kernel
theorem d_M_allowed_46 : decode c_M_allowed 46 = .ok (.lload_n 2, 1) := by decide +kernel
theorem d_M_allowed_47 : decode c_M_allowed 47 = .ok (.lload 4, 2) := by decide +kernel
theorem d_M_allowed_49 : decode c_M_allowed 49 = .ok (.lsub, 1) := by decide +kernel
theorem d_M_allowed_50 : decode c_M_allowed 50 = .ok (.lstore 6, 2) := by decide +kernel
theorem d_M_allowed_52 : decode c_M_allowed 52 = .ok (.aload_n 0, 1) := by decide +kernel
theorem d_M_allowed_53 : decode c_M_allowed 53 = .ok (.getfield 41, 3) := by decide +kernel
theorem d_M_allowed_56 : decode c_M_allowed 56 = .ok (.iload_n 1, 1) := by decide +kernel
theorem d_M_allowed_57 : decode c_M_allowed 57 = .ok (.iaload, 1) := by decide +kernel
theorem d_M_allowed_58 : decode c_M_allowed 58 = .ok (.i2l, 1) := by decide +kernel
theorem d_M_allowed_59 : decode c_M_allowed 59 = .ok (.iconst 1, 1) := by decide +kernel
theorem d_M_allowed_60 : decode c_M_allowed 60 = .ok (.aload_n 0, 1) := by decide +kernel
theorem d_M_allowed_61 : decode c_M_allowed 61 = .ok (.getfield 44, 3) := by decide +kernel
theorem d_M_allowed_64 : decode c_M_allowed 64 = .ok (.iload_n 1, 1) := by decide +kernel
theorem d_M_allowed_65 : decode c_M_allowed 65 = .ok (.iaload, 1) := by decide +kernel
theorem d_M_allowed_66 : decode c_M_allowed 66 = .ok (.iadd, 1) := by decide +kernel
theorem d_M_allowed_67 : decode c_M_allowed 67 = .ok (.i2l, 1) := by decide +kernel
theorem d_M_allowed_68 : decode c_M_allowed 68 = .ok (.lmul, 1) := by decide +kernel
theorem d_M_allowed_69 : decode c_M_allowed 69 = .ok (.aload_n 0, 1) := by decide +kernel
theorem d_M_allowed_70 : decode c_M_allowed 70 = .ok (.getfield 151, 3) := by decide +kernel
theorem d_M_allowed_73 : decode c_M_allowed 73 = .ok (.lsub, 1) := by decide +kernel
theorem d_M_allowed_74 : decode c_M_allowed 74 = .ok (.lstore 8, 2) := by decide +kernel
theorem d_M_allowed_76 : decode c_M_allowed 76 = .ok (.lload 6, 2) := by decide +kernel
theorem d_M_allowed_78 : decode c_M_allowed 78 = .ok (.lload 8, 2) := by decide +kernel
theorem d_M_allowed_80 : decode c_M_allowed 80 = .ok (.lcmp, 1) := by decide +kernel
theorem d_M_allowed_81 : decode c_M_allowed 81 = .ok (.ifCond .ge 8, 3) := by decide +kernel
theorem d_M_allowed_84 : decode c_M_allowed 84 = .ok (.lload 6, 2) := by decide +kernel
theorem d_M_allowed_86 : decode c_M_allowed 86 = .ok (.goto 5, 3) := by decide +kernel
theorem d_M_allowed_89 : decode c_M_allowed 89 = .ok (.lload 8, 2) := by decide +kernel
theorem d_M_allowed_91 : decode c_M_allowed 91 = .ok (.lstore 6, 2) := by decide +kernel
theorem d_M_allowed_93 : decode c_M_allowed 93 = .ok (.aload_n 0, 1) := by decide +kernel
theorem d_M_allowed_94 : decode c_M_allowed 94 = .ok (.dup, 1) := by decide +kernel
theorem d_M_allowed_95 : decode c_M_allowed 95 = .ok (.getfield 151, 3) := by decide +kernel
theorem d_M_allowed_98 : decode c_M_allowed 98 = .ok (.lload 6, 2) := by decide +kernel
theorem d_M_allowed_100 : decode c_M_allowed 100 = .ok (.ladd, 1) := by decide +kernel
theorem d_M_allowed_101 : decode c_M_allowed 101 = .ok (.putfield 151, 3) := by decide +kernel
theorem d_M_allowed_104 : decode c_M_allowed 104 = .ok (.lload 6, 2) := by decide +kernel
theorem d_M_allowed_106 : decode c_M_allowed 106 = .ok (.lreturn, 1) := by decide +kernel
theorem d_M_claimYear_0 : decode c_M_claimYear 0 = .ok (.aload_n 0, 1) := by decide +kernel
theorem d_M_claimYear_1 : decode c_M_claimYear 1 = .ok (.getfield 16, 3) := by decide +kernel
theorem d_M_claimYear_4 : decode c_M_claimYear 4 = .ok (.aload_n 0, 1) := by decide +kernel
theorem d_M_claimYear_5 : decode c_M_claimYear 5 = .ok (.getfield 19, 3) := by decide +kernel
theorem d_M_claimYear_8 : decode c_M_claimYear 8 = .ok (.iload_n 1, 1) := by decide +kernel
theorem d_M_claimYear_9 : decode c_M_claimYear 9 = .ok (.iaload, 1) := by decide +kernel
theorem d_M_claimYear_10 : decode c_M_claimYear 10 = .ok (.iaload, 1) := by decide +kernel
theorem d_M_claimYear_11 : decode c_M_claimYear 11 = .ok (.ireturn, 1) := by decide +kernel
theorem d_M_in_0 : decode c_M_in 0 = .ok (.lload_n 0, 1) := by decide +kernel
theorem d_M_in_1 : decode c_M_in 1 = .ok (.lload_n 2, 1) := by decide +kernel
theorem d_M_in_2 : decode c_M_in 2 = .ok (.lcmp, 1) := by decide +kernel
theorem d_M_in_3 : decode c_M_in 3 = .ok (.ifCond .lt 14, 3) := by decide +kernel
theorem d_M_in_6 : decode c_M_in 6 = .ok (.lload_n 0, 1) := by decide +kernel
theorem d_M_in_7 : decode c_M_in 7 = .ok (.lload 4, 2) := by decide +kernel
theorem d_M_in_9 : decode c_M_in 9 = .ok (.lcmp, 1) := by decide +kernel
theorem d_M_in_10 : decode c_M_in 10 = .ok (.ifCond .gt 7, 3) := by decide +kernel
theorem d_M_in_13 : decode c_M_in 13 = .ok (.iconst 1, 1) := by decide +kernel
theorem d_M_in_14 : decode c_M_in 14 = .ok (.goto 4, 3) := by decide +kernel
theorem d_M_in_17 : decode c_M_in 17 = .ok (.iconst 0, 1) := by decide +kernel
theorem d_M_in_18 : decode c_M_in 18 = .ok (.ireturn, 1) := by decide +kernel
theorem d_M_kindOf_0 : decode c_M_kindOf 0 = .ok (.aload_n 0, 1) := by decide +kernel
theorem d_M_kindOf_1 : decode c_M_kindOf 1 = .ok (.getfield 35, 3) := by decide +kernel
theorem d_M_kindOf_4 : decode c_M_kindOf 4 = .ok (.iload_n 1, 1) := by decide +kernel
theorem d_M_kindOf_5 : decode c_M_kindOf 5 = .ok (.iaload, 1) := by decide +kernel
theorem d_M_kindOf_6 : decode c_M_kindOf 6 = .ok (.bipush 10, 2) := by decide +kernel
theorem d_M_kindOf_8 : decode c_M_kindOf 8 = .ok (.idiv, 1) := by decide +kernel
theorem d_M_kindOf_9 : decode c_M_kindOf 9 = .ok (.ireturn, 1) := by decide +kernel
theorem d_M_layer_0 : decode c_M_layer 0 = .ok (.lload_n 0, 1) := by decide +kernel
theorem d_M_layer_1 : decode c_M_layer 1 = .ok (.lload_n 2, 1) := by decide +kernel
theorem d_M_layer_2 : decode c_M_layer 2 = .ok (.lcmp, 1) := by decide +kernel
theorem d_M_layer_3 : decode c_M_layer 3 = .ok (.ifCond .le 9, 3) := by decide +kernel
theorem d_M_layer_6 : decode c_M_layer 6 = .ok (.lload_n 0, 1) := by decide +kernel
theorem d_M_layer_7 : decode c_M_layer 7 = .ok (.lload_n 2, 1) := by decide +kernel
theorem d_M_layer_8 : decode c_M_layer 8 = .ok (.lsub, 1) := by decide +kernel
theorem d_M_layer_9 : decode c_M_layer 9 = .ok (.goto 4, 3) := by decide +kernel
theorem d_M_layer_12 : decode c_M_layer 12 = .ok (.lconst 0, 1) := by decide +kernel
theorem d_M_layer_13 : decode c_M_layer 13 = .ok (.lstore 6, 2) := by decide +kernel
theorem d_M_layer_15 : decode c_M_layer 15 = .ok (.lload 6, 2) := by decide +kernel
theorem d_M_layer_17 : decode c_M_layer 17 = .ok (.lload 4, 2) := by decide +kernel
theorem d_M_layer_19 : decode c_M_layer 19 = .ok (.lcmp, 1) := by decide +kernel
theorem d_M_layer_20 : decode c_M_layer 20 = .ok (.ifCond .ge 8, 3) := by decide +kernel
theorem d_M_layer_23 : decode c_M_layer 23 = .ok (.lload 6, 2) := by decide +kernel
theorem d_M_layer_25 : decode c_M_layer 25 = .ok (.goto 5, 3) := by decide +kernel
theorem d_M_layer_28 : decode c_M_layer 28 = .ok (.lload 4, 2) := by decide +kernel
theorem d_M_layer_30 : decode c_M_layer 30 = .ok (.lreturn, 1) := by decide +kernel
theorem d_M_shareOf_0 : decode c_M_shareOf 0 = .ok (.lload_n 3, 1) := by decide +kernel
theorem d_M_shareOf_1 : decode c_M_shareOf 1 = .ok (.aload_n 0, 1) := by decide +kernel
theorem d_M_shareOf_2 : decode c_M_shareOf 2 = .ok (.getfield 50, 3) := by decide +kernel
theorem d_M_shareOf_5 : decode c_M_shareOf 5 = .ok (.bipush 6, 2) := by decide +kernel
theorem d_M_shareOf_7 : decode c_M_shareOf 7 = .ok (.iload_n 1, 1) := by decide +kernel
theorem d_M_shareOf_8 : decode c_M_shareOf 8 = .ok (.imul, 1) := by decide +kernel
theorem d_M_shareOf_9 : decode c_M_shareOf 9 = .ok (.iload_n 2, 1) := by decide +kernel
theorem d_M_shareOf_10 : decode c_M_shareOf 10 = .ok (.iadd, 1) := by decide +kernel
theorem d_M_shareOf_11 : decode c_M_shareOf 11 = .ok (.iaload, 1) := by decide +kernel
theorem d_M_shareOf_12 : decode c_M_shareOf 12 = .ok (.i2l, 1) := by decide +kernel
theorem d_M_shareOf_13 : decode c_M_shareOf 13 = .ok (.lmul, 1) := by decide +kernel
theorem d_M_shareOf_14 : decode c_M_shareOf 14 = .ok (.ldc2_w 115, 3) := by decide +kernel
theorem d_M_shareOf_17 : decode c_M_shareOf 17 = .ok (.ldiv, 1) := by decide +kernel
theorem d_M_shareOf_18 : decode c_M_shareOf 18 = .ok (.lreturn, 1) := by decide +kernel
theorem d_M_take_0 : decode c_M_take 0 = .ok (.aload_n 0, 1) := by decide +kernel
theorem d_M_take_1 : decode c_M_take 1 = .ok (.getfield 63, 3) := by decide +kernel
theorem d_M_take_4 : decode c_M_take 4 = .ok (.bipush 40, 2) := by decide +kernel
theorem d_M_take_6 : decode c_M_take 6 = .ok (.iload_n 1, 1) := by decide +kernel
theorem d_M_take_7 : decode c_M_take 7 = .ok (.imul, 1) := by decide +kernel
theorem d_M_take_8 : decode c_M_take 8 = .ok (.iload_n 2, 1) := by decide +kernel
theorem d_M_take_9 : decode c_M_take 9 = .ok (.iadd, 1) := by decide +kernel
theorem d_M_take_10 : decode c_M_take 10 = .ok (.dup2, 1) := by decide +kernel
theorem d_M_take_11 : decode c_M_take 11 = .ok (.laload, 1) := by decide +kernel
theorem d_M_take_12 : decode c_M_take 12 = .ok (.lload_n 3, 1) := by decide +kernel
theorem d_M_take_13 : decode c_M_take 13 = .ok (.ladd, 1) := by decide +kernel
theorem d_M_take_14 : decode c_M_take 14 = .ok (.lastore, 1) := by decide +kernel
theorem d_M_take_15 : decode c_M_take 15 = .ok (.aload_n 0, 1) := by decide +kernel
theorem d_M_take_16 : decode c_M_take 16 = .ok (.getfield 66, 3) := by decide +kernel
theorem d_M_take_19 : decode c_M_take 19 = .ok (.iload_n 1, 1) := by decide +kernel
theorem d_M_take_20 : decode c_M_take 20 = .ok (.dup2, 1) := by decide +kernel
theorem d_M_take_21 : decode c_M_take 21 = .ok (.laload, 1) := by decide +kernel
theorem d_M_take_22 : decode c_M_take 22 = .ok (.lload_n 3, 1) := by decide +kernel
theorem d_M_take_23 : decode c_M_take 23 = .ok (.ladd, 1) := by decide +kernel
theorem d_M_take_24 : decode c_M_take 24 = .ok (.lastore, 1) := by decide +kernel
theorem d_M_take_25 : decode c_M_take 25 = .ok (.aload_n 0, 1) := by decide +kernel
theorem d_M_take_26 : decode c_M_take 26 = .ok (.getfield 60, 3) := by decide +kernel
theorem d_M_take_29 : decode c_M_take 29 = .ok (.iload_n 2, 1) := by decide +kernel
theorem d_M_take_30 : decode c_M_take 30 = .ok (.dup2, 1) := by decide +kernel
theorem d_M_take_31 : decode c_M_take 31 = .ok (.laload, 1) := by decide +kernel
theorem d_M_take_32 : decode c_M_take 32 = .ok (.lload_n 3, 1) := by decide +kernel
theorem d_M_take_33 : decode c_M_take 33 = .ok (.lsub, 1) := by decide +kernel
theorem d_M_take_34 : decode c_M_take 34 = .ok (.lastore, 1) := by decide +kernel
theorem d_M_take_35 : decode c_M_take 35 = .ok (.return_, 1) := by decide +kernel
theorem d_M_throwing_0 : decode c_M_throwing 0 = .ok (.aload_n 0, 1) := by decide +kernel
theorem d_M_throwing_1 : decode c_M_throwing 1 = .ok (.iload_n 1, 1) := by decide +kernel
theorem d_M_throwing_2 : decode c_M_throwing 2 = .ok (.ifCond .eq 7, 3) := by decide +kernel
theorem d_M_throwing_5 : decode c_M_throwing 5 = .ok (.iconst 1, 1) := by decide +kernel
theorem d_M_throwing_6 : decode c_M_throwing 6 = .ok (.goto 12, 3) := by decide +kernel
theorem d_M_throwing_9 : decode c_M_throwing 9 = .ok (.iload_n 2, 1) := by decide +kernel
theorem d_M_throwing_10 : decode c_M_throwing 10 = .ok (.ifCond .eq 7, 3) := by decide +kernel
theorem d_M_throwing_13 : decode c_M_throwing 13 = .ok (.iconst 2, 1) := by decide +kernel
theorem d_M_throwing_14 : decode c_M_throwing 14 = .ok (.goto 4, 3) := by decide +kernel
theorem d_M_throwing_17 : decode c_M_throwing 17 = .ok (.iconst 0, 1) := by decide +kernel
theorem d_M_throwing_18 : decode c_M_throwing 18 = .ok (.putfield 87, 3) := by decide +kernel
theorem d_M_throwing_21 : decode c_M_throwing 21 = .ok (.aload_n 0, 1) := by decide +kernel
theorem d_M_throwing_22 : decode c_M_throwing 22 = .ok (.getfield 87, 3) := by decide +kernel
theorem d_M_throwing_25 : decode c_M_throwing 25 = .ok (.ifCond .le 7, 3) := by decide +kernel
theorem d_M_throwing_28 : decode c_M_throwing 28 = .ok (.iconst 1, 1) := by decide +kernel
theorem d_M_throwing_29 : decode c_M_throwing 29 = .ok (.goto 4, 3) := by decide +kernel
theorem d_M_throwing_32 : decode c_M_throwing 32 = .ok (.iconst 0, 1) := by decide +kernel
theorem d_M_throwing_33 : decode c_M_throwing 33 = .ok (.ireturn, 1) := by decide +kernel
theorem d_M_thrown_0 : decode c_M_thrown 0 = .ok (.aload_n 0, 1) := by decide +kernel
theorem d_M_thrown_1 : decode c_M_thrown 1 = .ok (.getfield 87, 3) := by decide +kernel
theorem d_M_thrown_4 : decode c_M_thrown 4 = .ok (.ireturn, 1) := by decide +kernel
theorem d_M_treatyYear_0 : decode c_M_treatyYear 0 = .ok (.aload_n 0, 1) := by decide +kernel
theorem d_M_treatyYear_1 : decode c_M_treatyYear 1 = .ok (.getfield 35, 3) := by decide +kernel
theorem d_M_treatyYear_4 : decode c_M_treatyYear 4 = .ok (.iload_n 1, 1) := by decide +kernel
theorem d_M_treatyYear_5 : decode c_M_treatyYear 5 = .ok (.iaload, 1) := by decide +kernel
theorem d_M_treatyYear_6 : decode c_M_treatyYear 6 = .ok (.bipush 10, 2) := by decide +kernel
theorem d_M_treatyYear_8 : decode c_M_treatyYear 8 = .ok (.irem, 1) := by decide +kernel
theorem d_M_treatyYear_9 : decode c_M_treatyYear 9 = .ok (.ireturn, 1) := by decide +kernel
theorem d_M_areSo_0 : decode c_M_areSo 0 = .ok (.iload_n 0, 1) := by decide +kernel
theorem d_M_areSo_1 : decode c_M_areSo 1 = .ok (.ifCond .ne 42, 3) := by decide +kernel
theorem d_M_areSo_4 : decode c_M_areSo 4 = .ok (.iload_n 1, 1) := by decide +kernel
theorem d_M_areSo_5 : decode c_M_areSo 5 = .ok (.i2l, 1) := by decide +kernel
theorem d_M_areSo_6 : decode c_M_areSo 6 = .ok (.lconst 1, 1) := by decide +kernel
theorem d_M_areSo_7 : decode c_M_areSo 7 = .ok (.ldc2_w 115, 3) := by decide +kernel
theorem d_M_areSo_10 : decode c_M_areSo 10 = .ok (.invokestatic 93, 3) := by decide +kernel
theorem d_M_areSo_13 : decode c_M_areSo 13 = .ok (.ifCond .eq 28, 3) := by decide +kernel
theorem d_M_areSo_16 : decode c_M_areSo 16 = .ok (.iload_n 2, 1) := by decide +kernel
theorem d_M_areSo_17 : decode c_M_areSo 17 = .ok (.i2l, 1) := by decide +kernel
theorem d_M_areSo_18 : decode c_M_areSo 18 = .ok (.lconst 1, 1) := by decide +kernel
theorem d_M_areSo_19 : decode c_M_areSo 19 = .ok (.ldc2_w 103, 3) := by decide +kernel
theorem d_M_areSo_22 : decode c_M_areSo 22 = .ok (.invokestatic 93, 3) := by decide +kernel
theorem d_M_areSo_25 : decode c_M_areSo 25 = .ok (.ifCond .eq 16, 3) := by decide +kernel
theorem d_M_areSo_28 : decode c_M_areSo 28 = .ok (.iload_n 3, 1) := by decide +kernel
theorem d_M_areSo_29 : decode c_M_areSo 29 = .ok (.ifCond .ne 12, 3) := by decide +kernel
theorem d_M_areSo_32 : decode c_M_areSo 32 = .ok (.iload 4, 2) := by decide +kernel
theorem d_M_areSo_34 : decode c_M_areSo 34 = .ok (.ifCond .ne 7, 3) := by decide +kernel
theorem d_M_areSo_37 : decode c_M_areSo 37 = .ok (.iconst 1, 1) := by decide +kernel
theorem d_M_areSo_38 : decode c_M_areSo 38 = .ok (.goto 4, 3) := by decide +kernel
theorem d_M_areSo_41 : decode c_M_areSo 41 = .ok (.iconst 0, 1) := by decide +kernel
theorem d_M_areSo_42 : decode c_M_areSo 42 = .ok (.ireturn, 1) := by decide +kernel
theorem d_M_areSo_43 : decode c_M_areSo 43 = .ok (.iload_n 0, 1) := by decide +kernel
theorem d_M_areSo_44 : decode c_M_areSo 44 = .ok (.iconst 1, 1) := by decide +kernel
theorem d_M_areSo_45 : decode c_M_areSo 45 = .ok (.if_icmp .ne 42, 3) := by decide +kernel
theorem d_M_areSo_48 : decode c_M_areSo 48 = .ok (.iload_n 1, 1) := by decide +kernel
theorem d_M_areSo_49 : decode c_M_areSo 49 = .ok (.i2l, 1) := by decide +kernel
theorem d_M_areSo_50 : decode c_M_areSo 50 = .ok (.lconst 1, 1) := by decide +kernel
theorem d_M_areSo_51 : decode c_M_areSo 51 = .ok (.ldc2_w 103, 3) := by decide +kernel
theorem d_M_areSo_54 : decode c_M_areSo 54 = .ok (.invokestatic 93, 3) := by decide +kernel
theorem d_M_areSo_57 : decode c_M_areSo 57 = .ok (.ifCond .eq 28, 3) := by decide +kernel
theorem d_M_areSo_60 : decode c_M_areSo 60 = .ok (.iload_n 2, 1) := by decide +kernel
theorem d_M_areSo_61 : decode c_M_areSo 61 = .ok (.i2l, 1) := by decide +kernel
theorem d_M_areSo_62 : decode c_M_areSo 62 = .ok (.lconst 1, 1) := by decide +kernel
theorem d_M_areSo_63 : decode c_M_areSo 63 = .ok (.ldc2_w 117, 3) := by decide +kernel
theorem d_M_areSo_66 : decode c_M_areSo 66 = .ok (.invokestatic 93, 3) := by decide +kernel
theorem d_M_areSo_69 : decode c_M_areSo 69 = .ok (.ifCond .eq 16, 3) := by decide +kernel
theorem d_M_areSo_72 : decode c_M_areSo 72 = .ok (.iload_n 3, 1) := by decide +kernel
theorem d_M_areSo_73 : decode c_M_areSo 73 = .ok (.ifCond .ne 12, 3) := by decide +kernel
theorem d_M_areSo_76 : decode c_M_areSo 76 = .ok (.iload 4, 2) := by decide +kernel
theorem d_M_areSo_78 : decode c_M_areSo 78 = .ok (.ifCond .ne 7, 3) := by decide +kernel
theorem d_M_areSo_81 : decode c_M_areSo 81 = .ok (.iconst 1, 1) := by decide +kernel
theorem d_M_areSo_82 : decode c_M_areSo 82 = .ok (.goto 4, 3) := by decide +kernel
theorem d_M_areSo_85 : decode c_M_areSo 85 = .ok (.iconst 0, 1) := by decide +kernel
theorem d_M_areSo_86 : decode c_M_areSo 86 = .ok (.ireturn, 1) := by decide +kernel
theorem d_M_areSo_87 : decode c_M_areSo 87 = .ok (.iload_n 0, 1) := by decide +kernel
theorem d_M_areSo_88 : decode c_M_areSo 88 = .ok (.iconst 4, 1) := by decide +kernel
theorem d_M_areSo_89 : decode c_M_areSo 89 = .ok (.if_icmp .ne 42, 3) := by decide +kernel
theorem d_M_areSo_92 : decode c_M_areSo 92 = .ok (.iload_n 1, 1) := by decide +kernel
theorem d_M_areSo_93 : decode c_M_areSo 93 = .ok (.i2l, 1) := by decide +kernel
theorem d_M_areSo_94 : decode c_M_areSo 94 = .ok (.lconst 0, 1) := by decide +kernel
theorem d_M_areSo_95 : decode c_M_areSo 95 = .ok (.ldc2_w 103, 3) := by decide +kernel
theorem d_M_areSo_98 : decode c_M_areSo 98 = .ok (.invokestatic 93, 3) := by decide +kernel
theorem d_M_areSo_101 : decode c_M_areSo 101 = .ok (.ifCond .eq 28, 3) := by decide +kernel
theorem d_M_areSo_104 : decode c_M_areSo 104 = .ok (.iload_n 2, 1) := by decide +kernel
theorem d_M_areSo_105 : decode c_M_areSo 105 = .ok (.i2l, 1) := by decide +kernel
theorem d_M_areSo_106 : decode c_M_areSo 106 = .ok (.lconst 1, 1) := by decide +kernel
theorem d_M_areSo_107 : decode c_M_areSo 107 = .ok (.ldc2_w 103, 3) := by decide +kernel
theorem d_M_areSo_110 : decode c_M_areSo 110 = .ok (.invokestatic 93, 3) := by decide +kernel
theorem d_M_areSo_113 : decode c_M_areSo 113 = .ok (.ifCond .eq 16, 3) := by decide +kernel
theorem d_M_areSo_116 : decode c_M_areSo 116 = .ok (.iload_n 3, 1) := by decide +kernel
theorem d_M_areSo_117 : decode c_M_areSo 117 = .ok (.ifCond .ne 12, 3) := by decide +kernel
theorem d_M_areSo_120 : decode c_M_areSo 120 = .ok (.iload 4, 2) := by decide +kernel
theorem d_M_areSo_122 : decode c_M_areSo 122 = .ok (.ifCond .ne 7, 3) := by decide +kernel
theorem d_M_areSo_125 : decode c_M_areSo 125 = .ok (.iconst 1, 1) := by decide +kernel
theorem d_M_areSo_126 : decode c_M_areSo 126 = .ok (.goto 4, 3) := by decide +kernel
theorem d_M_areSo_129 : decode c_M_areSo 129 = .ok (.iconst 0, 1) := by decide +kernel
theorem d_M_areSo_130 : decode c_M_areSo 130 = .ok (.ireturn, 1) := by decide +kernel
theorem d_M_areSo_131 : decode c_M_areSo 131 = .ok (.iload_n 1, 1) := by decide +kernel
theorem d_M_areSo_132 : decode c_M_areSo 132 = .ok (.i2l, 1) := by decide +kernel
theorem d_M_areSo_133 : decode c_M_areSo 133 = .ok (.lconst 0, 1) := by decide +kernel
theorem d_M_areSo_134 : decode c_M_areSo 134 = .ok (.ldc2_w 103, 3) := by decide +kernel
theorem d_M_areSo_137 : decode c_M_areSo 137 = .ok (.invokestatic 93, 3) := by decide +kernel
theorem d_M_areSo_140 : decode c_M_areSo 140 = .ok (.ifCond .eq 44, 3) := by decide +kernel
theorem d_M_areSo_143 : decode c_M_areSo 143 = .ok (.iload_n 2, 1) := by decide +kernel
theorem d_M_areSo_144 : decode c_M_areSo 144 = .ok (.i2l, 1) := by decide +kernel
theorem d_M_areSo_145 : decode c_M_areSo 145 = .ok (.lconst 1, 1) := by decide +kernel
theorem d_M_areSo_146 : decode c_M_areSo 146 = .ok (.ldc2_w 103, 3) := by decide +kernel
theorem d_M_areSo_149 : decode c_M_areSo 149 = .ok (.invokestatic 93, 3) := by decide +kernel
theorem d_M_areSo_152 : decode c_M_areSo 152 = .ok (.ifCond .eq 32, 3) := by decide +kernel
theorem d_M_areSo_155 : decode c_M_areSo 155 = .ok (.iload_n 3, 1) := by decide +kernel
theorem d_M_areSo_156 : decode c_M_areSo 156 = .ok (.i2l, 1) := by decide +kernel
theorem d_M_areSo_157 : decode c_M_areSo 157 = .ok (.lconst 0, 1) := by decide +kernel
theorem d_M_areSo_158 : decode c_M_areSo 158 = .ok (.ldc2_w 119, 3) := by decide +kernel
theorem d_M_areSo_161 : decode c_M_areSo 161 = .ok (.invokestatic 93, 3) := by decide +kernel
theorem d_M_areSo_164 : decode c_M_areSo 164 = .ok (.ifCond .eq 20, 3) := by decide +kernel
theorem d_M_areSo_167 : decode c_M_areSo 167 = .ok (.iload 4, 2) := by decide +kernel
theorem d_M_areSo_169 : decode c_M_areSo 169 = .ok (.i2l, 1) := by decide +kernel
theorem d_M_areSo_170 : decode c_M_areSo 170 = .ok (.lconst 0, 1) := by decide +kernel
theorem d_M_areSo_171 : decode c_M_areSo 171 = .ok (.ldc2_w 103, 3) := by decide +kernel
theorem d_M_areSo_174 : decode c_M_areSo 174 = .ok (.invokestatic 93, 3) := by decide +kernel
theorem d_M_areSo_177 : decode c_M_areSo 177 = .ok (.ifCond .eq 7, 3) := by decide +kernel
theorem d_M_areSo_180 : decode c_M_areSo 180 = .ok (.iconst 1, 1) := by decide +kernel
theorem d_M_areSo_181 : decode c_M_areSo 181 = .ok (.goto 4, 3) := by decide +kernel
theorem d_M_areSo_184 : decode c_M_areSo 184 = .ok (.iconst 0, 1) := by decide +kernel
theorem d_M_areSo_185 : decode c_M_areSo 185 = .ok (.ireturn, 1) := by decide +kernel
theorem d_M_counts_0 : decode c_M_counts 0 = .ok (.aload_n 0, 1) := by decide +kernel
theorem d_M_counts_1 : decode c_M_counts 1 = .ok (.getfield 31, 3) := by decide +kernel
theorem d_M_counts_4 : decode c_M_counts 4 = .ok (.iload_n 1, 1) := by decide +kernel
theorem d_M_counts_5 : decode c_M_counts 5 = .ok (.baload, 1) := by decide +kernel
theorem d_M_counts_6 : decode c_M_counts 6 = .ok (.ifCond .ne 16, 3) := by decide +kernel
theorem d_M_counts_9 : decode c_M_counts 9 = .ok (.aload_n 0, 1) := by decide +kernel
theorem d_M_counts_10 : decode c_M_counts 10 = .ok (.iload_n 1, 1) := by decide +kernel
theorem d_M_counts_11 : decode c_M_counts 11 = .ok (.invokevirtual 141, 3) := by decide +kernel
theorem d_M_counts_14 : decode c_M_counts 14 = .ok (.iload_n 2, 1) := by decide +kernel
theorem d_M_counts_15 : decode c_M_counts 15 = .ok (.if_icmp .ne 7, 3) := by decide +kernel
theorem d_M_counts_18 : decode c_M_counts 18 = .ok (.iconst 1, 1) := by decide +kernel
theorem d_M_counts_19 : decode c_M_counts 19 = .ok (.goto 4, 3) := by decide +kernel
theorem d_M_counts_22 : decode c_M_counts 22 = .ok (.iconst 0, 1) := by decide +kernel
theorem d_M_counts_23 : decode c_M_counts 23 = .ok (.ireturn, 1) := by decide +kernel
theorem d_M_dissolve_0 : decode c_M_dissolve 0 = .ok (.iload_n 1, 1) := by decide +kernel
theorem d_M_dissolve_1 : decode c_M_dissolve 1 = .ok (.i2l, 1) := by decide +kernel
theorem d_M_dissolve_2 : decode c_M_dissolve 2 = .ok (.lconst 1, 1) := by decide +kernel
theorem d_M_dissolve_3 : decode c_M_dissolve 3 = .ok (.ldc2_w 134, 3) := by decide +kernel
theorem d_M_dissolve_6 : decode c_M_dissolve 6 = .ok (.invokestatic 93, 3) := by decide +kernel
theorem d_M_dissolve_9 : decode c_M_dissolve 9 = .ok (.ifCond .eq 15, 3) := by decide +kernel
theorem d_M_dissolve_12 : decode c_M_dissolve 12 = .ok (.iload_n 2, 1) := by decide +kernel
theorem d_M_dissolve_13 : decode c_M_dissolve 13 = .ok (.i2l, 1) := by decide +kernel
theorem d_M_dissolve_14 : decode c_M_dissolve 14 = .ok (.lconst 0, 1) := by decide +kernel
theorem d_M_dissolve_15 : decode c_M_dissolve 15 = .ok (.ldc2_w 105, 3) := by decide +kernel
theorem d_M_dissolve_18 : decode c_M_dissolve 18 = .ok (.invokestatic 93, 3) := by decide +kernel
theorem d_M_dissolve_21 : decode c_M_dissolve 21 = .ok (.ifCond .ne 7, 3) := by decide +kernel
theorem d_M_dissolve_24 : decode c_M_dissolve 24 = .ok (.iconst 1, 1) := by decide +kernel
theorem d_M_dissolve_25 : decode c_M_dissolve 25 = .ok (.goto 4, 3) := by decide +kernel
theorem d_M_dissolve_28 : decode c_M_dissolve 28 = .ok (.iconst 0, 1) := by decide +kernel
theorem d_M_dissolve_29 : decode c_M_dissolve 29 = .ok (.istore_n 3, 1) := by decide +kernel
theorem d_M_dissolve_30 : decode c_M_dissolve 30 = .ok (.aload_n 0, 1) := by decide +kernel
theorem d_M_dissolve_31 : decode c_M_dissolve 31 = .ok (.iload_n 3, 1) := by decide +kernel
theorem d_M_dissolve_32 : decode c_M_dissolve 32 = .ok (.iload_n 3, 1) := by decide +kernel
theorem d_M_dissolve_33 : decode c_M_dissolve 33 = .ok (.ifCond .ne 16, 3) := by decide +kernel
theorem d_M_dissolve_36 : decode c_M_dissolve 36 = .ok (.aload_n 0, 1) := by decide +kernel
theorem d_M_dissolve_37 : decode c_M_dissolve 37 = .ok (.getfield 57, 3) := by decide +kernel
theorem d_M_dissolve_40 : decode c_M_dissolve 40 = .ok (.iload_n 2, 1) := by decide +kernel
theorem d_M_dissolve_41 : decode c_M_dissolve 41 = .ok (.baload, 1) := by decide +kernel
theorem d_M_dissolve_42 : decode c_M_dissolve 42 = .ok (.ifCond .eq 7, 3) := by decide +kernel
theorem d_M_dissolve_45 : decode c_M_dissolve 45 = .ok (.iconst 1, 1) := by decide +kernel
theorem d_M_dissolve_46 : decode c_M_dissolve 46 = .ok (.goto 4, 3) := by decide +kernel
theorem d_M_dissolve_49 : decode c_M_dissolve 49 = .ok (.iconst 0, 1) := by decide +kernel
theorem d_M_dissolve_50 : decode c_M_dissolve 50 = .ok (.invokevirtual 107, 3) := by decide +kernel
theorem d_M_dissolve_53 : decode c_M_dissolve 53 = .ok (.ifCond .eq 5, 3) := by decide +kernel
theorem d_M_dissolve_56 : decode c_M_dissolve 56 = .ok (.iconst 0, 1) := by decide +kernel
theorem d_M_dissolve_57 : decode c_M_dissolve 57 = .ok (.ireturn, 1) := by decide +kernel
theorem d_M_dissolve_58 : decode c_M_dissolve 58 = .ok (.iconst 0, 1) := by decide +kernel
theorem d_M_dissolve_59 : decode c_M_dissolve 59 = .ok (.istore 4, 2) := by decide +kernel
theorem d_M_dissolve_61 : decode c_M_dissolve 61 = .ok (.iconst 0, 1) := by decide +kernel
theorem d_M_dissolve_62 : decode c_M_dissolve 62 = .ok (.istore 5, 2) := by decide +kernel
theorem d_M_dissolve_64 : decode c_M_dissolve 64 = .ok (.iload 5, 2) := by decide +kernel
theorem d_M_dissolve_66 : decode c_M_dissolve 66 = .ok (.aload_n 0, 1) := by decide +kernel
theorem d_M_dissolve_67 : decode c_M_dissolve 67 = .ok (.getfield 97, 3) := by decide +kernel
theorem d_M_dissolve_70 : decode c_M_dissolve 70 = .ok (.if_icmp .ge 51, 3) := by decide +kernel
theorem d_M_dissolve_73 : decode c_M_dissolve 73 = .ok (.aload_n 0, 1) := by decide +kernel
theorem d_M_dissolve_74 : decode c_M_dissolve 74 = .ok (.getfield 31, 3) := by decide +kernel
theorem d_M_dissolve_77 : decode c_M_dissolve 77 = .ok (.iload 5, 2) := by decide +kernel
theorem d_M_dissolve_79 : decode c_M_dissolve 79 = .ok (.baload, 1) := by decide +kernel
theorem d_M_dissolve_80 : decode c_M_dissolve 80 = .ok (.ifCond .ne 35, 3) := by decide +kernel
theorem d_M_dissolve_83 : decode c_M_dissolve 83 = .ok (.aload_n 0, 1) := by decide +kernel
theorem d_M_dissolve_84 : decode c_M_dissolve 84 = .ok (.getfield 22, 3) := by decide +kernel
theorem d_M_dissolve_87 : decode c_M_dissolve 87 = .ok (.iload 5, 2) := by decide +kernel
theorem d_M_dissolve_89 : decode c_M_dissolve 89 = .ok (.iaload, 1) := by decide +kernel
theorem d_M_dissolve_90 : decode c_M_dissolve 90 = .ok (.iload_n 1, 1) := by decide +kernel
theorem d_M_dissolve_91 : decode c_M_dissolve 91 = .ok (.if_icmp .ne 24, 3) := by decide +kernel
theorem d_M_dissolve_94 : decode c_M_dissolve 94 = .ok (.aload_n 0, 1) := by decide +kernel
theorem d_M_dissolve_95 : decode c_M_dissolve 95 = .ok (.iload 5, 2) := by decide +kernel
theorem d_M_dissolve_97 : decode c_M_dissolve 97 = .ok (.invokevirtual 141, 3) := by decide +kernel
theorem d_M_dissolve_100 : decode c_M_dissolve 100 = .ok (.iload_n 2, 1) := by decide +kernel
theorem d_M_dissolve_101 : decode c_M_dissolve 101 = .ok (.if_icmp .ne 14, 3) := by decide +kernel
theorem d_M_dissolve_104 : decode c_M_dissolve 104 = .ok (.aload_n 0, 1) := by decide +kernel
theorem d_M_dissolve_105 : decode c_M_dissolve 105 = .ok (.getfield 22, 3) := by decide +kernel
theorem d_M_dissolve_108 : decode c_M_dissolve 108 = .ok (.iload 5, 2) := by decide +kernel
theorem d_M_dissolve_110 : decode c_M_dissolve 110 = .ok (.iconst 0, 1) := by decide +kernel
theorem d_M_dissolve_111 : decode c_M_dissolve 111 = .ok (.iastore, 1) := by decide +kernel
theorem d_M_dissolve_112 : decode c_M_dissolve 112 = .ok (.iinc 4 1, 3) := by decide +kernel
theorem d_M_dissolve_115 : decode c_M_dissolve 115 = .ok (.iinc 5 1, 3) := by decide +kernel
theorem d_M_dissolve_118 : decode c_M_dissolve 118 = .ok (.goto (-54), 3) := by decide +kernel
theorem d_M_dissolve_121 : decode c_M_dissolve 121 = .ok (.iload 4, 2) := by decide +kernel
theorem d_M_dissolve_123 : decode c_M_dissolve 123 = .ok (.ireturn, 1) := by decide +kernel
theorem d_M_isClaim_0 : decode c_M_isClaim 0 = .ok (.iload_n 1, 1) := by decide +kernel
theorem d_M_isClaim_1 : decode c_M_isClaim 1 = .ok (.i2l, 1) := by decide +kernel
theorem d_M_isClaim_2 : decode c_M_isClaim 2 = .ok (.lconst 0, 1) := by decide +kernel
theorem d_M_isClaim_3 : decode c_M_isClaim 3 = .ok (.aload_n 0, 1) := by decide +kernel
theorem d_M_isClaim_4 : decode c_M_isClaim 4 = .ok (.getfield 97, 3) := by decide +kernel
theorem d_M_isClaim_7 : decode c_M_isClaim 7 = .ok (.iconst 1, 1) := by decide +kernel
theorem d_M_isClaim_8 : decode c_M_isClaim 8 = .ok (.isub, 1) := by decide +kernel
theorem d_M_isClaim_9 : decode c_M_isClaim 9 = .ok (.i2l, 1) := by decide +kernel
theorem d_M_isClaim_10 : decode c_M_isClaim 10 = .ok (.invokestatic 93, 3) := by decide +kernel
theorem d_M_isClaim_13 : decode c_M_isClaim 13 = .ok (.ireturn, 1) := by decide +kernel
theorem d_M_isRisk_0 : decode c_M_isRisk 0 = .ok (.iload_n 1, 1) := by decide +kernel
theorem d_M_isRisk_1 : decode c_M_isRisk 1 = .ok (.i2l, 1) := by decide +kernel
theorem d_M_isRisk_2 : decode c_M_isRisk 2 = .ok (.lconst 0, 1) := by decide +kernel
theorem d_M_isRisk_3 : decode c_M_isRisk 3 = .ok (.ldc2_w 91, 3) := by decide +kernel
theorem d_M_isRisk_6 : decode c_M_isRisk 6 = .ok (.invokestatic 93, 3) := by decide +kernel
theorem d_M_isRisk_9 : decode c_M_isRisk 9 = .ok (.ifCond .eq 16, 3) := by decide +kernel
theorem d_M_isRisk_12 : decode c_M_isRisk 12 = .ok (.aload_n 0, 1) := by decide +kernel
theorem d_M_isRisk_13 : decode c_M_isRisk 13 = .ok (.getfield 7, 3) := by decide +kernel
theorem d_M_isRisk_16 : decode c_M_isRisk 16 = .ok (.iload_n 1, 1) := by decide +kernel
theorem d_M_isRisk_17 : decode c_M_isRisk 17 = .ok (.iaload, 1) := by decide +kernel
theorem d_M_isRisk_18 : decode c_M_isRisk 18 = .ok (.ifCond .le 7, 3) := by decide +kernel
theorem d_M_isRisk_21 : decode c_M_isRisk 21 = .ok (.iconst 1, 1) := by decide +kernel
theorem d_M_isRisk_22 : decode c_M_isRisk 22 = .ok (.goto 4, 3) := by decide +kernel
theorem d_M_isRisk_25 : decode c_M_isRisk 25 = .ok (.iconst 0, 1) := by decide +kernel
theorem d_M_isRisk_26 : decode c_M_isRisk 26 = .ok (.ireturn, 1) := by decide +kernel
theorem d_M_isTreaty_0 : decode c_M_isTreaty 0 = .ok (.iload_n 1, 1) := by decide +kernel
theorem d_M_isTreaty_1 : decode c_M_isTreaty 1 = .ok (.i2l, 1) := by decide +kernel
theorem d_M_isTreaty_2 : decode c_M_isTreaty 2 = .ok (.lconst 0, 1) := by decide +kernel
theorem d_M_isTreaty_3 : decode c_M_isTreaty 3 = .ok (.aload_n 0, 1) := by decide +kernel
theorem d_M_isTreaty_4 : decode c_M_isTreaty 4 = .ok (.getfield 100, 3) := by decide +kernel
theorem d_M_isTreaty_7 : decode c_M_isTreaty 7 = .ok (.iconst 1, 1) := by decide +kernel
theorem d_M_isTreaty_8 : decode c_M_isTreaty 8 = .ok (.isub, 1) := by decide +kernel
theorem d_M_isTreaty_9 : decode c_M_isTreaty 9 = .ok (.i2l, 1) := by decide +kernel
theorem d_M_isTreaty_10 : decode c_M_isTreaty 10 = .ok (.invokestatic 93, 3) := by decide +kernel
theorem d_M_isTreaty_13 : decode c_M_isTreaty 13 = .ok (.ireturn, 1) := by decide +kernel
theorem d_M_partOf_0 : decode c_M_partOf 0 = .ok (.aload_n 0, 1) := by decide +kernel
theorem d_M_partOf_1 : decode c_M_partOf 1 = .ok (.iload_n 1, 1) := by decide +kernel
theorem d_M_partOf_2 : decode c_M_partOf 2 = .ok (.invokevirtual 144, 3) := by decide +kernel
theorem d_M_partOf_5 : decode c_M_partOf 5 = .ok (.ifCond .ne 52, 3) := by decide +kernel
theorem d_M_partOf_8 : decode c_M_partOf 8 = .ok (.aload_n 0, 1) := by decide +kernel
theorem d_M_partOf_9 : decode c_M_partOf 9 = .ok (.getfield 7, 3) := by decide +kernel
theorem d_M_partOf_12 : decode c_M_partOf 12 = .ok (.iload_n 2, 1) := by decide +kernel
theorem d_M_partOf_13 : decode c_M_partOf 13 = .ok (.iaload, 1) := by decide +kernel
theorem d_M_partOf_14 : decode c_M_partOf 14 = .ok (.aload_n 0, 1) := by decide +kernel
theorem d_M_partOf_15 : decode c_M_partOf 15 = .ok (.getfield 41, 3) := by decide +kernel
theorem d_M_partOf_18 : decode c_M_partOf 18 = .ok (.iload_n 1, 1) := by decide +kernel
theorem d_M_partOf_19 : decode c_M_partOf 19 = .ok (.iaload, 1) := by decide +kernel
theorem d_M_partOf_20 : decode c_M_partOf 20 = .ok (.if_icmp .gt 13, 3) := by decide +kernel
theorem d_M_partOf_23 : decode c_M_partOf 23 = .ok (.aload_n 0, 1) := by decide +kernel
theorem d_M_partOf_24 : decode c_M_partOf 24 = .ok (.getfield 38, 3) := by decide +kernel
theorem d_M_partOf_27 : decode c_M_partOf 27 = .ok (.iload_n 1, 1) := by decide +kernel
theorem d_M_partOf_28 : decode c_M_partOf 28 = .ok (.iaload, 1) := by decide +kernel
theorem d_M_partOf_29 : decode c_M_partOf 29 = .ok (.i2l, 1) := by decide +kernel
theorem d_M_partOf_30 : decode c_M_partOf 30 = .ok (.goto 26, 3) := by decide +kernel
theorem d_M_partOf_33 : decode c_M_partOf 33 = .ok (.aload_n 0, 1) := by decide +kernel
theorem d_M_partOf_34 : decode c_M_partOf 34 = .ok (.getfield 38, 3) := by decide +kernel
theorem d_M_partOf_37 : decode c_M_partOf 37 = .ok (.iload_n 1, 1) := by decide +kernel
theorem d_M_partOf_38 : decode c_M_partOf 38 = .ok (.iaload, 1) := by decide +kernel
theorem d_M_partOf_39 : decode c_M_partOf 39 = .ok (.i2l, 1) := by decide +kernel
theorem d_M_partOf_40 : decode c_M_partOf 40 = .ok (.aload_n 0, 1) := by decide +kernel
theorem d_M_partOf_41 : decode c_M_partOf 41 = .ok (.getfield 41, 3) := by decide +kernel
theorem d_M_partOf_44 : decode c_M_partOf 44 = .ok (.iload_n 1, 1) := by decide +kernel
theorem d_M_partOf_45 : decode c_M_partOf 45 = .ok (.iaload, 1) := by decide +kernel
theorem d_M_partOf_46 : decode c_M_partOf 46 = .ok (.i2l, 1) := by decide +kernel
theorem d_M_partOf_47 : decode c_M_partOf 47 = .ok (.lmul, 1) := by decide +kernel
theorem d_M_partOf_48 : decode c_M_partOf 48 = .ok (.aload_n 0, 1) := by decide +kernel
theorem d_M_partOf_49 : decode c_M_partOf 49 = .ok (.getfield 7, 3) := by decide +kernel
theorem d_M_partOf_52 : decode c_M_partOf 52 = .ok (.iload_n 2, 1) := by decide +kernel
theorem d_M_partOf_53 : decode c_M_partOf 53 = .ok (.iaload, 1) := by decide +kernel
theorem d_M_partOf_54 : decode c_M_partOf 54 = .ok (.i2l, 1) := by decide +kernel
theorem d_M_partOf_55 : decode c_M_partOf 55 = .ok (.ldiv, 1) := by decide +kernel
theorem d_M_partOf_56 : decode c_M_partOf 56 = .ok (.lreturn, 1) := by decide +kernel
theorem d_M_partOf_57 : decode c_M_partOf 57 = .ok (.aload_n 0, 1) := by decide +kernel
theorem d_M_partOf_58 : decode c_M_partOf 58 = .ok (.getfield 7, 3) := by decide +kernel
theorem d_M_partOf_61 : decode c_M_partOf 61 = .ok (.iload_n 2, 1) := by decide +kernel
theorem d_M_partOf_62 : decode c_M_partOf 62 = .ok (.iaload, 1) := by decide +kernel
theorem d_M_partOf_63 : decode c_M_partOf 63 = .ok (.aload_n 0, 1) := by decide +kernel
theorem d_M_partOf_64 : decode c_M_partOf 64 = .ok (.getfield 38, 3) := by decide +kernel
theorem d_M_partOf_67 : decode c_M_partOf 67 = .ok (.iload_n 1, 1) := by decide +kernel
theorem d_M_partOf_68 : decode c_M_partOf 68 = .ok (.iaload, 1) := by decide +kernel
theorem d_M_partOf_69 : decode c_M_partOf 69 = .ok (.if_icmp .le 20, 3) := by decide +kernel
theorem d_M_partOf_72 : decode c_M_partOf 72 = .ok (.aload_n 0, 1) := by decide +kernel
theorem d_M_partOf_73 : decode c_M_partOf 73 = .ok (.getfield 7, 3) := by decide +kernel
theorem d_M_partOf_76 : decode c_M_partOf 76 = .ok (.iload_n 2, 1) := by decide +kernel
theorem d_M_partOf_77 : decode c_M_partOf 77 = .ok (.iaload, 1) := by decide +kernel
theorem d_M_partOf_78 : decode c_M_partOf 78 = .ok (.aload_n 0, 1) := by decide +kernel
theorem d_M_partOf_79 : decode c_M_partOf 79 = .ok (.getfield 38, 3) := by decide +kernel
theorem d_M_partOf_82 : decode c_M_partOf 82 = .ok (.iload_n 1, 1) := by decide +kernel
theorem d_M_partOf_83 : decode c_M_partOf 83 = .ok (.iaload, 1) := by decide +kernel
theorem d_M_partOf_84 : decode c_M_partOf 84 = .ok (.isub, 1) := by decide +kernel
theorem d_M_partOf_85 : decode c_M_partOf 85 = .ok (.i2l, 1) := by decide +kernel
theorem d_M_partOf_86 : decode c_M_partOf 86 = .ok (.goto 4, 3) := by decide +kernel
theorem d_M_partOf_89 : decode c_M_partOf 89 = .ok (.lconst 0, 1) := by decide +kernel
theorem d_M_partOf_90 : decode c_M_partOf 90 = .ok (.lstore_n 3, 1) := by decide +kernel
theorem d_M_partOf_91 : decode c_M_partOf 91 = .ok (.aload_n 0, 1) := by decide +kernel
theorem d_M_partOf_92 : decode c_M_partOf 92 = .ok (.getfield 38, 3) := by decide +kernel
theorem d_M_partOf_95 : decode c_M_partOf 95 = .ok (.iload_n 1, 1) := by decide +kernel
theorem d_M_partOf_96 : decode c_M_partOf 96 = .ok (.iaload, 1) := by decide +kernel
theorem d_M_partOf_97 : decode c_M_partOf 97 = .ok (.i2l, 1) := by decide +kernel
theorem d_M_partOf_98 : decode c_M_partOf 98 = .ok (.aload_n 0, 1) := by decide +kernel
theorem d_M_partOf_99 : decode c_M_partOf 99 = .ok (.getfield 41, 3) := by decide +kernel
theorem d_M_partOf_102 : decode c_M_partOf 102 = .ok (.iload_n 1, 1) := by decide +kernel
theorem d_M_partOf_103 : decode c_M_partOf 103 = .ok (.iaload, 1) := by decide +kernel
theorem d_M_partOf_104 : decode c_M_partOf 104 = .ok (.i2l, 1) := by decide +kernel
theorem d_M_partOf_105 : decode c_M_partOf 105 = .ok (.lmul, 1) := by decide +kernel
theorem d_M_partOf_106 : decode c_M_partOf 106 = .ok (.lstore 5, 2) := by decide +kernel
theorem d_M_partOf_108 : decode c_M_partOf 108 = .ok (.ldc2_w 115, 3) := by decide +kernel
theorem d_M_partOf_111 : decode c_M_partOf 111 = .ok (.lload_n 3, 1) := by decide +kernel
theorem d_M_partOf_112 : decode c_M_partOf 112 = .ok (.lload 5, 2) := by decide +kernel
theorem d_M_partOf_114 : decode c_M_partOf 114 = .ok (.lcmp, 1) := by decide +kernel
theorem d_M_partOf_115 : decode c_M_partOf 115 = .ok (.ifCond .ge 7, 3) := by decide +kernel
theorem d_M_partOf_118 : decode c_M_partOf 118 = .ok (.lload_n 3, 1) := by decide +kernel
theorem d_M_partOf_119 : decode c_M_partOf 119 = .ok (.goto 5, 3) := by decide +kernel
theorem d_M_partOf_122 : decode c_M_partOf 122 = .ok (.lload 5, 2) := by decide +kernel
theorem d_M_partOf_124 : decode c_M_partOf 124 = .ok (.lmul, 1) := by decide +kernel
theorem d_M_partOf_125 : decode c_M_partOf 125 = .ok (.aload_n 0, 1) := by decide +kernel
theorem d_M_partOf_126 : decode c_M_partOf 126 = .ok (.getfield 7, 3) := by decide +kernel
theorem d_M_partOf_129 : decode c_M_partOf 129 = .ok (.iload_n 2, 1) := by decide +kernel
theorem d_M_partOf_130 : decode c_M_partOf 130 = .ok (.iaload, 1) := by decide +kernel
theorem d_M_partOf_131 : decode c_M_partOf 131 = .ok (.i2l, 1) := by decide +kernel
theorem d_M_partOf_132 : decode c_M_partOf 132 = .ok (.ldiv, 1) := by decide +kernel
theorem d_M_partOf_133 : decode c_M_partOf 133 = .ok (.lreturn, 1) := by decide +kernel
theorem d_M_ratio_0 : decode c_M_ratio 0 = .ok (.aload_n 0, 1) := by decide +kernel
theorem d_M_ratio_1 : decode c_M_ratio 1 = .ok (.iload_n 1, 1) := by decide +kernel
theorem d_M_ratio_2 : decode c_M_ratio 2 = .ok (.invokevirtual 144, 3) := by decide +kernel
theorem d_M_ratio_5 : decode c_M_ratio 5 = .ok (.iconst 1, 1) := by decide +kernel
theorem d_M_ratio_6 : decode c_M_ratio 6 = .ok (.if_icmp .gt 14, 3) := by decide +kernel
theorem d_M_ratio_9 : decode c_M_ratio 9 = .ok (.aload_n 0, 1) := by decide +kernel
theorem d_M_ratio_10 : decode c_M_ratio 10 = .ok (.getfield 69, 3) := by decide +kernel
theorem d_M_ratio_13 : decode c_M_ratio 13 = .ok (.iload_n 1, 1) := by decide +kernel
theorem d_M_ratio_14 : decode c_M_ratio 14 = .ok (.laload, 1) := by decide +kernel
theorem d_M_ratio_15 : decode c_M_ratio 15 = .ok (.lconst 0, 1) := by decide +kernel
theorem d_M_ratio_16 : decode c_M_ratio 16 = .ok (.lcmp, 1) := by decide +kernel
theorem d_M_ratio_17 : decode c_M_ratio 17 = .ok (.ifCond .ne 5, 3) := by decide +kernel
theorem d_M_ratio_20 : decode c_M_ratio 20 = .ok (.lconst 0, 1) := by decide +kernel
theorem d_M_ratio_21 : decode c_M_ratio 21 = .ok (.lreturn, 1) := by decide +kernel
theorem d_M_ratio_22 : decode c_M_ratio 22 = .ok (.aload_n 0, 1) := by decide +kernel
theorem d_M_ratio_23 : decode c_M_ratio 23 = .ok (.getfield 66, 3) := by decide +kernel
theorem d_M_ratio_26 : decode c_M_ratio 26 = .ok (.iload_n 1, 1) := by decide +kernel
theorem d_M_ratio_27 : decode c_M_ratio 27 = .ok (.laload, 1) := by decide +kernel
theorem d_M_ratio_28 : decode c_M_ratio 28 = .ok (.ldc2_w 115, 3) := by decide +kernel
theorem d_M_ratio_31 : decode c_M_ratio 31 = .ok (.lmul, 1) := by decide +kernel
theorem d_M_ratio_32 : decode c_M_ratio 32 = .ok (.aload_n 0, 1) := by decide +kernel
theorem d_M_ratio_33 : decode c_M_ratio 33 = .ok (.getfield 69, 3) := by decide +kernel
theorem d_M_ratio_36 : decode c_M_ratio 36 = .ok (.iload_n 1, 1) := by decide +kernel
theorem d_M_ratio_37 : decode c_M_ratio 37 = .ok (.laload, 1) := by decide +kernel
theorem d_M_ratio_38 : decode c_M_ratio 38 = .ok (.ldiv, 1) := by decide +kernel
theorem d_M_ratio_39 : decode c_M_ratio 39 = .ok (.lstore_n 2, 1) := by decide +kernel
theorem d_M_ratio_40 : decode c_M_ratio 40 = .ok (.lload_n 2, 1) := by decide +kernel
theorem d_M_ratio_41 : decode c_M_ratio 41 = .ok (.ldc2_w 197, 3) := by decide +kernel
theorem d_M_ratio_44 : decode c_M_ratio 44 = .ok (.lcmp, 1) := by decide +kernel
theorem d_M_ratio_45 : decode c_M_ratio 45 = .ok (.ifCond .ge 7, 3) := by decide +kernel
theorem d_M_ratio_48 : decode c_M_ratio 48 = .ok (.lload_n 2, 1) := by decide +kernel
theorem d_M_ratio_49 : decode c_M_ratio 49 = .ok (.goto 6, 3) := by decide +kernel
theorem d_M_ratio_52 : decode c_M_ratio 52 = .ok (.ldc2_w 197, 3) := by decide +kernel
theorem d_M_ratio_55 : decode c_M_ratio 55 = .ok (.lreturn, 1) := by decide +kernel
theorem d_M_reinstatement_0 : decode c_M_reinstatement 0 = .ok (.aload_n 0, 1) := by decide +kernel
theorem d_M_reinstatement_1 : decode c_M_reinstatement 1 = .ok (.iload_n 1, 1) := by decide +kernel
theorem d_M_reinstatement_2 : decode c_M_reinstatement 2 = .ok (.invokevirtual 144, 3) := by decide +kernel
theorem d_M_reinstatement_5 : decode c_M_reinstatement 5 = .ok (.iconst 2, 1) := by decide +kernel
theorem d_M_reinstatement_6 : decode c_M_reinstatement 6 = .ok (.if_icmp .eq 14, 3) := by decide +kernel
theorem d_M_reinstatement_9 : decode c_M_reinstatement 9 = .ok (.aload_n 0, 1) := by decide +kernel
theorem d_M_reinstatement_10 : decode c_M_reinstatement 10 = .ok (.iload_n 1, 1) := by decide +kernel
theorem d_M_reinstatement_11 : decode c_M_reinstatement 11 = .ok (.invokevirtual 144, 3) := by decide +kernel
theorem d_M_reinstatement_14 : decode c_M_reinstatement 14 = .ok (.iconst 3, 1) := by decide +kernel
theorem d_M_reinstatement_15 : decode c_M_reinstatement 15 = .ok (.if_icmp .eq 5, 3) := by decide +kernel
theorem d_M_reinstatement_18 : decode c_M_reinstatement 18 = .ok (.lconst 0, 1) := by decide +kernel
theorem d_M_reinstatement_19 : decode c_M_reinstatement 19 = .ok (.lreturn, 1) := by decide +kernel
theorem d_M_reinstatement_20 : decode c_M_reinstatement 20 = .ok (.aload_n 0, 1) := by decide +kernel
theorem d_M_reinstatement_21 : decode c_M_reinstatement 21 = .ok (.getfield 41, 3) := by decide +kernel
theorem d_M_reinstatement_24 : decode c_M_reinstatement 24 = .ok (.iload_n 1, 1) := by decide +kernel
theorem d_M_reinstatement_25 : decode c_M_reinstatement 25 = .ok (.iaload, 1) := by decide +kernel
theorem d_M_reinstatement_26 : decode c_M_reinstatement 26 = .ok (.i2l, 1) := by decide +kernel
theorem d_M_reinstatement_27 : decode c_M_reinstatement 27 = .ok (.aload_n 0, 1) := by decide +kernel
theorem d_M_reinstatement_28 : decode c_M_reinstatement 28 = .ok (.getfield 44, 3) := by decide +kernel
theorem d_M_reinstatement_31 : decode c_M_reinstatement 31 = .ok (.iload_n 1, 1) := by decide +kernel
theorem d_M_reinstatement_32 : decode c_M_reinstatement 32 = .ok (.iaload, 1) := by decide +kernel
theorem d_M_reinstatement_33 : decode c_M_reinstatement 33 = .ok (.i2l, 1) := by decide +kernel
theorem d_M_reinstatement_34 : decode c_M_reinstatement 34 = .ok (.lmul, 1) := by decide +kernel
theorem d_M_reinstatement_35 : decode c_M_reinstatement 35 = .ok (.lstore_n 3, 1) := by decide +kernel
theorem d_M_reinstatement_36 : decode c_M_reinstatement 36 = .ok (.aload_n 0, 1) := by decide +kernel
theorem d_M_reinstatement_37 : decode c_M_reinstatement 37 = .ok (.getfield 66, 3) := by decide +kernel
theorem d_M_reinstatement_40 : decode c_M_reinstatement 40 = .ok (.iload_n 1, 1) := by decide +kernel
theorem d_M_reinstatement_41 : decode c_M_reinstatement 41 = .ok (.laload, 1) := by decide +kernel
theorem d_M_reinstatement_42 : decode c_M_reinstatement 42 = .ok (.lload_n 3, 1) := by decide +kernel
theorem d_M_reinstatement_43 : decode c_M_reinstatement 43 = .ok (.lcmp, 1) := by decide +kernel
theorem d_M_reinstatement_44 : decode c_M_reinstatement 44 = .ok (.ifCond .ge 12, 3) := by decide +kernel
theorem d_M_reinstatement_47 : decode c_M_reinstatement 47 = .ok (.aload_n 0, 1) := by decide +kernel
theorem d_M_reinstatement_48 : decode c_M_reinstatement 48 = .ok (.getfield 66, 3) := by decide +kernel
theorem d_M_reinstatement_51 : decode c_M_reinstatement 51 = .ok (.iload_n 1, 1) := by decide +kernel
theorem d_M_reinstatement_52 : decode c_M_reinstatement 52 = .ok (.laload, 1) := by decide +kernel
theorem d_M_reinstatement_53 : decode c_M_reinstatement 53 = .ok (.goto 4, 3) := by decide +kernel
theorem d_M_reinstatement_56 : decode c_M_reinstatement 56 = .ok (.lload_n 3, 1) := by decide +kernel
theorem d_M_reinstatement_57 : decode c_M_reinstatement 57 = .ok (.lstore 5, 2) := by decide +kernel
theorem d_M_reinstatement_59 : decode c_M_reinstatement 59 = .ok (.aload_n 0, 1) := by decide +kernel
theorem d_M_reinstatement_60 : decode c_M_reinstatement 60 = .ok (.iload_n 1, 1) := by decide +kernel
theorem d_M_reinstatement_61 : decode c_M_reinstatement 61 = .ok (.iload_n 2, 1) := by decide +kernel
theorem d_M_reinstatement_62 : decode c_M_reinstatement 62 = .ok (.aload_n 0, 1) := by decide +kernel
theorem d_M_reinstatement_63 : decode c_M_reinstatement 63 = .ok (.getfield 41, 3) := by decide +kernel
theorem d_M_reinstatement_66 : decode c_M_reinstatement 66 = .ok (.iload_n 1, 1) := by decide +kernel
theorem d_M_reinstatement_67 : decode c_M_reinstatement 67 = .ok (.iaload, 1) := by decide +kernel
theorem d_M_reinstatement_68 : decode c_M_reinstatement 68 = .ok (.i2l, 1) := by decide +kernel
theorem d_M_reinstatement_69 : decode c_M_reinstatement 69 = .ok (.ldc2_w 136, 3) := by decide +kernel
theorem d_M_reinstatement_72 : decode c_M_reinstatement 72 = .ok (.lmul, 1) := by decide +kernel
theorem d_M_reinstatement_73 : decode c_M_reinstatement 73 = .ok (.ldc2_w 115, 3) := by decide +kernel
theorem d_M_reinstatement_76 : decode c_M_reinstatement 76 = .ok (.ldiv, 1) := by decide +kernel
theorem d_M_reinstatement_77 : decode c_M_reinstatement 77 = .ok (.lload 5, 2) := by decide +kernel
theorem d_M_reinstatement_79 : decode c_M_reinstatement 79 = .ok (.lmul, 1) := by decide +kernel
theorem d_M_reinstatement_80 : decode c_M_reinstatement 80 = .ok (.aload_n 0, 1) := by decide +kernel
theorem d_M_reinstatement_81 : decode c_M_reinstatement 81 = .ok (.getfield 41, 3) := by decide +kernel
theorem d_M_reinstatement_84 : decode c_M_reinstatement 84 = .ok (.iload_n 1, 1) := by decide +kernel
theorem d_M_reinstatement_85 : decode c_M_reinstatement 85 = .ok (.iaload, 1) := by decide +kernel
theorem d_M_reinstatement_86 : decode c_M_reinstatement 86 = .ok (.i2l, 1) := by decide +kernel
theorem d_M_reinstatement_87 : decode c_M_reinstatement 87 = .ok (.ldiv, 1) := by decide +kernel
theorem d_M_reinstatement_88 : decode c_M_reinstatement 88 = .ok (.invokevirtual 210, 3) := by decide +kernel
theorem d_M_reinstatement_91 : decode c_M_reinstatement 91 = .ok (.lreturn, 1) := by decide +kernel
theorem d_M_risk_0 : decode c_M_risk 0 = .ok (.iload_n 1, 1) := by decide +kernel
theorem d_M_risk_1 : decode c_M_risk 1 = .ok (.i2l, 1) := by decide +kernel
theorem d_M_risk_2 : decode c_M_risk 2 = .ok (.lconst 0, 1) := by decide +kernel
theorem d_M_risk_3 : decode c_M_risk 3 = .ok (.ldc2_w 91, 3) := by decide +kernel
theorem d_M_risk_6 : decode c_M_risk 6 = .ok (.invokestatic 93, 3) := by decide +kernel
theorem d_M_risk_9 : decode c_M_risk 9 = .ok (.ifCond .eq 27, 3) := by decide +kernel
theorem d_M_risk_12 : decode c_M_risk 12 = .ok (.iload_n 2, 1) := by decide +kernel
theorem d_M_risk_13 : decode c_M_risk 13 = .ok (.i2l, 1) := by decide +kernel
theorem d_M_risk_14 : decode c_M_risk 14 = .ok (.lconst 1, 1) := by decide +kernel
theorem d_M_risk_15 : decode c_M_risk 15 = .ok (.ldc2_w 103, 3) := by decide +kernel
theorem d_M_risk_18 : decode c_M_risk 18 = .ok (.invokestatic 93, 3) := by decide +kernel
theorem d_M_risk_21 : decode c_M_risk 21 = .ok (.ifCond .eq 15, 3) := by decide +kernel
theorem d_M_risk_24 : decode c_M_risk 24 = .ok (.iload_n 3, 1) := by decide +kernel
theorem d_M_risk_25 : decode c_M_risk 25 = .ok (.i2l, 1) := by decide +kernel
theorem d_M_risk_26 : decode c_M_risk 26 = .ok (.lconst 0, 1) := by decide +kernel
theorem d_M_risk_27 : decode c_M_risk 27 = .ok (.ldc2_w 105, 3) := by decide +kernel
theorem d_M_risk_30 : decode c_M_risk 30 = .ok (.invokestatic 93, 3) := by decide +kernel
theorem d_M_risk_33 : decode c_M_risk 33 = .ok (.ifCond .ne 7, 3) := by decide +kernel
theorem d_M_risk_36 : decode c_M_risk 36 = .ok (.iconst 1, 1) := by decide +kernel
theorem d_M_risk_37 : decode c_M_risk 37 = .ok (.goto 4, 3) := by decide +kernel
theorem d_M_risk_40 : decode c_M_risk 40 = .ok (.iconst 0, 1) := by decide +kernel
theorem d_M_risk_41 : decode c_M_risk 41 = .ok (.istore 4, 2) := by decide +kernel
theorem d_M_risk_43 : decode c_M_risk 43 = .ok (.aload_n 0, 1) := by decide +kernel
theorem d_M_risk_44 : decode c_M_risk 44 = .ok (.iload 4, 2) := by decide +kernel
theorem d_M_risk_46 : decode c_M_risk 46 = .ok (.iload 4, 2) := by decide +kernel
theorem d_M_risk_48 : decode c_M_risk 48 = .ok (.ifCond .ne 25, 3) := by decide +kernel
theorem d_M_risk_51 : decode c_M_risk 51 = .ok (.aload_n 0, 1) := by decide +kernel
theorem d_M_risk_52 : decode c_M_risk 52 = .ok (.getfield 7, 3) := by decide +kernel
theorem d_M_risk_55 : decode c_M_risk 55 = .ok (.iload_n 1, 1) := by decide +kernel
theorem d_M_risk_56 : decode c_M_risk 56 = .ok (.iaload, 1) := by decide +kernel
theorem d_M_risk_57 : decode c_M_risk 57 = .ok (.ifCond .gt 12, 3) := by decide +kernel
theorem d_M_risk_60 : decode c_M_risk 60 = .ok (.aload_n 0, 1) := by decide +kernel
theorem d_M_risk_61 : decode c_M_risk 61 = .ok (.getfield 57, 3) := by decide +kernel
theorem d_M_risk_64 : decode c_M_risk 64 = .ok (.iload_n 3, 1) := by decide +kernel
theorem d_M_risk_65 : decode c_M_risk 65 = .ok (.baload, 1) := by decide +kernel
theorem d_M_risk_66 : decode c_M_risk 66 = .ok (.ifCond .eq 7, 3) := by decide +kernel
theorem d_M_risk_69 : decode c_M_risk 69 = .ok (.iconst 1, 1) := by decide +kernel
theorem d_M_risk_70 : decode c_M_risk 70 = .ok (.goto 4, 3) := by decide +kernel
theorem d_M_risk_73 : decode c_M_risk 73 = .ok (.iconst 0, 1) := by decide +kernel
theorem d_M_risk_74 : decode c_M_risk 74 = .ok (.invokevirtual 107, 3) := by decide +kernel
theorem d_M_risk_77 : decode c_M_risk 77 = .ok (.ifCond .eq 4, 3) := by decide +kernel
theorem d_M_risk_80 : decode c_M_risk 80 = .ok (.return_, 1) := by decide +kernel
theorem d_M_risk_81 : decode c_M_risk 81 = .ok (.aload_n 0, 1) := by decide +kernel
theorem d_M_risk_82 : decode c_M_risk 82 = .ok (.getfield 7, 3) := by decide +kernel
theorem d_M_risk_85 : decode c_M_risk 85 = .ok (.iload_n 1, 1) := by decide +kernel
theorem d_M_risk_86 : decode c_M_risk 86 = .ok (.iload_n 2, 1) := by decide +kernel
theorem d_M_risk_87 : decode c_M_risk 87 = .ok (.iastore, 1) := by decide +kernel
theorem d_M_risk_88 : decode c_M_risk 88 = .ok (.aload_n 0, 1) := by decide +kernel
theorem d_M_risk_89 : decode c_M_risk 89 = .ok (.getfield 16, 3) := by decide +kernel
theorem d_M_risk_92 : decode c_M_risk 92 = .ok (.iload_n 1, 1) := by decide +kernel
theorem d_M_risk_93 : decode c_M_risk 93 = .ok (.iload_n 3, 1) := by decide +kernel
theorem d_M_risk_94 : decode c_M_risk 94 = .ok (.iastore, 1) := by decide +kernel
theorem d_M_risk_95 : decode c_M_risk 95 = .ok (.return_, 1) := by decide +kernel
theorem d_M_spread_0 : decode c_M_spread 0 = .ok (.lload 4, 2) := by decide +kernel
theorem d_M_spread_2 : decode c_M_spread 2 = .ok (.lconst 0, 1) := by decide +kernel
theorem d_M_spread_3 : decode c_M_spread 3 = .ok (.lcmp, 1) := by decide +kernel
theorem d_M_spread_4 : decode c_M_spread 4 = .ok (.ifCond .ne 4, 3) := by decide +kernel
theorem d_M_spread_7 : decode c_M_spread 7 = .ok (.return_, 1) := by decide +kernel
theorem d_M_spread_8 : decode c_M_spread 8 = .ok (.lload_n 2, 1) := by decide +kernel
theorem d_M_spread_9 : decode c_M_spread 9 = .ok (.lstore 6, 2) := by decide +kernel
theorem d_M_spread_11 : decode c_M_spread 11 = .ok (.iconst 0, 1) := by decide +kernel
theorem d_M_spread_12 : decode c_M_spread 12 = .ok (.istore 8, 2) := by decide +kernel
theorem d_M_spread_14 : decode c_M_spread 14 = .ok (.iload 8, 2) := by decide +kernel
theorem d_M_spread_16 : decode c_M_spread 16 = .ok (.aload_n 0, 1) := by decide +kernel
theorem d_M_spread_17 : decode c_M_spread 17 = .ok (.getfield 97, 3) := by decide +kernel
theorem d_M_spread_20 : decode c_M_spread 20 = .ok (.if_icmp .ge 71, 3) := by decide +kernel
theorem d_M_spread_23 : decode c_M_spread 23 = .ok (.aload_n 0, 1) := by decide +kernel
theorem d_M_spread_24 : decode c_M_spread 24 = .ok (.getfield 81, 3) := by decide +kernel
theorem d_M_spread_27 : decode c_M_spread 27 = .ok (.iload 8, 2) := by decide +kernel
theorem d_M_spread_29 : decode c_M_spread 29 = .ok (.aload_n 0, 1) := by decide +kernel
theorem d_M_spread_30 : decode c_M_spread 30 = .ok (.getfield 78, 3) := by decide +kernel
theorem d_M_spread_33 : decode c_M_spread 33 = .ok (.iload 8, 2) := by decide +kernel
theorem d_M_spread_35 : decode c_M_spread 35 = .ok (.baload, 1) := by decide +kernel
theorem d_M_spread_36 : decode c_M_spread 36 = .ok (.ifCond .eq 18, 3) := by decide +kernel
theorem d_M_spread_39 : decode c_M_spread 39 = .ok (.aload_n 0, 1) := by decide +kernel
theorem d_M_spread_40 : decode c_M_spread 40 = .ok (.getfield 60, 3) := by decide +kernel
theorem d_M_spread_43 : decode c_M_spread 43 = .ok (.iload 8, 2) := by decide +kernel
theorem d_M_spread_45 : decode c_M_spread 45 = .ok (.laload, 1) := by decide +kernel
theorem d_M_spread_46 : decode c_M_spread 46 = .ok (.lload_n 2, 1) := by decide +kernel
theorem d_M_spread_47 : decode c_M_spread 47 = .ok (.lmul, 1) := by decide +kernel
theorem d_M_spread_48 : decode c_M_spread 48 = .ok (.lload 4, 2) := by decide +kernel
theorem d_M_spread_50 : decode c_M_spread 50 = .ok (.lrem, 1) := by decide +kernel
theorem d_M_spread_51 : decode c_M_spread 51 = .ok (.goto 6, 3) := by decide +kernel
theorem d_M_spread_54 : decode c_M_spread 54 = .ok (.ldc2_w 154, 3) := by decide +kernel
theorem d_M_spread_57 : decode c_M_spread 57 = .ok (.lastore, 1) := by decide +kernel
theorem d_M_spread_58 : decode c_M_spread 58 = .ok (.aload_n 0, 1) := by decide +kernel
theorem d_M_spread_59 : decode c_M_spread 59 = .ok (.getfield 78, 3) := by decide +kernel
theorem d_M_spread_62 : decode c_M_spread 62 = .ok (.iload 8, 2) := by decide +kernel
theorem d_M_spread_64 : decode c_M_spread 64 = .ok (.baload, 1) := by decide +kernel
theorem d_M_spread_65 : decode c_M_spread 65 = .ok (.ifCond .eq 20, 3) := by decide +kernel
theorem d_M_spread_68 : decode c_M_spread 68 = .ok (.lload 6, 2) := by decide +kernel
theorem d_M_spread_70 : decode c_M_spread 70 = .ok (.aload_n 0, 1) := by decide +kernel
theorem d_M_spread_71 : decode c_M_spread 71 = .ok (.getfield 60, 3) := by decide +kernel
theorem d_M_spread_74 : decode c_M_spread 74 = .ok (.iload 8, 2) := by decide +kernel
theorem d_M_spread_76 : decode c_M_spread 76 = .ok (.laload, 1) := by decide +kernel
theorem d_M_spread_77 : decode c_M_spread 77 = .ok (.lload_n 2, 1) := by decide +kernel
theorem d_M_spread_78 : decode c_M_spread 78 = .ok (.lmul, 1) := by decide +kernel
theorem d_M_spread_79 : decode c_M_spread 79 = .ok (.lload 4, 2) := by decide +kernel
theorem d_M_spread_81 : decode c_M_spread 81 = .ok (.ldiv, 1) := by decide +kernel
theorem d_M_spread_82 : decode c_M_spread 82 = .ok (.lsub, 1) := by decide +kernel
theorem d_M_spread_83 : decode c_M_spread 83 = .ok (.lstore 6, 2) := by decide +kernel
theorem d_M_spread_85 : decode c_M_spread 85 = .ok (.iinc 8 1, 3) := by decide +kernel
theorem d_M_spread_88 : decode c_M_spread 88 = .ok (.goto (-74), 3) := by decide +kernel
theorem d_M_spread_91 : decode c_M_spread 91 = .ok (.iconst 0, 1) := by decide +kernel
theorem d_M_spread_92 : decode c_M_spread 92 = .ok (.istore 8, 2) := by decide +kernel
theorem d_M_spread_94 : decode c_M_spread 94 = .ok (.iload 8, 2) := by decide +kernel
theorem d_M_spread_96 : decode c_M_spread 96 = .ok (.aload_n 0, 1) := by decide +kernel
theorem d_M_spread_97 : decode c_M_spread 97 = .ok (.getfield 97, 3) := by decide +kernel
theorem d_M_spread_100 : decode c_M_spread 100 = .ok (.if_icmp .ge 114, 3) := by decide +kernel
theorem d_M_spread_103 : decode c_M_spread 103 = .ok (.aload_n 0, 1) := by decide +kernel
theorem d_M_spread_104 : decode c_M_spread 104 = .ok (.getfield 78, 3) := by decide +kernel
theorem d_M_spread_107 : decode c_M_spread 107 = .ok (.iload 8, 2) := by decide +kernel
theorem d_M_spread_109 : decode c_M_spread 109 = .ok (.baload, 1) := by decide +kernel
theorem d_M_spread_110 : decode c_M_spread 110 = .ok (.ifCond .eq 98, 3) := by decide +kernel
theorem d_M_spread_113 : decode c_M_spread 113 = .ok (.iconst 0, 1) := by decide +kernel
theorem d_M_spread_114 : decode c_M_spread 114 = .ok (.istore 9, 2) := by decide +kernel
theorem d_M_spread_116 : decode c_M_spread 116 = .ok (.iconst 0, 1) := by decide +kernel
theorem d_M_spread_117 : decode c_M_spread 117 = .ok (.istore 10, 2) := by decide +kernel
theorem d_M_spread_119 : decode c_M_spread 119 = .ok (.iload 10, 2) := by decide +kernel
theorem d_M_spread_121 : decode c_M_spread 121 = .ok (.aload_n 0, 1) := by decide +kernel
theorem d_M_spread_122 : decode c_M_spread 122 = .ok (.getfield 97, 3) := by decide +kernel
theorem d_M_spread_125 : decode c_M_spread 125 = .ok (.if_icmp .ge 62, 3) := by decide +kernel
theorem d_M_spread_128 : decode c_M_spread 128 = .ok (.iload 9, 2) := by decide +kernel
theorem d_M_spread_130 : decode c_M_spread 130 = .ok (.aload_n 0, 1) := by decide +kernel
theorem d_M_spread_131 : decode c_M_spread 131 = .ok (.getfield 81, 3) := by decide +kernel
theorem d_M_spread_134 : decode c_M_spread 134 = .ok (.iload 10, 2) := by decide +kernel
theorem d_M_spread_136 : decode c_M_spread 136 = .ok (.laload, 1) := by decide +kernel
theorem d_M_spread_137 : decode c_M_spread 137 = .ok (.aload_n 0, 1) := by decide +kernel
theorem d_M_spread_138 : decode c_M_spread 138 = .ok (.getfield 81, 3) := by decide +kernel
theorem d_M_spread_141 : decode c_M_spread 141 = .ok (.iload 8, 2) := by decide +kernel
theorem d_M_spread_143 : decode c_M_spread 143 = .ok (.laload, 1) := by decide +kernel
theorem d_M_spread_144 : decode c_M_spread 144 = .ok (.lcmp, 1) := by decide +kernel
theorem d_M_spread_145 : decode c_M_spread 145 = .ok (.ifCond .gt 28, 3) := by decide +kernel
theorem d_M_spread_148 : decode c_M_spread 148 = .ok (.aload_n 0, 1) := by decide +kernel
theorem d_M_spread_149 : decode c_M_spread 149 = .ok (.getfield 81, 3) := by decide +kernel
theorem d_M_spread_152 : decode c_M_spread 152 = .ok (.iload 10, 2) := by decide +kernel
theorem d_M_spread_154 : decode c_M_spread 154 = .ok (.laload, 1) := by decide +kernel
theorem d_M_spread_155 : decode c_M_spread 155 = .ok (.aload_n 0, 1) := by decide +kernel
theorem d_M_spread_156 : decode c_M_spread 156 = .ok (.getfield 81, 3) := by decide +kernel
theorem d_M_spread_159 : decode c_M_spread 159 = .ok (.iload 8, 2) := by decide +kernel
theorem d_M_spread_161 : decode c_M_spread 161 = .ok (.laload, 1) := by decide +kernel
theorem d_M_spread_162 : decode c_M_spread 162 = .ok (.lcmp, 1) := by decide +kernel
theorem d_M_spread_163 : decode c_M_spread 163 = .ok (.ifCond .ne 14, 3) := by decide +kernel
theorem d_M_spread_166 : decode c_M_spread 166 = .ok (.iload 10, 2) := by decide +kernel
theorem d_M_spread_168 : decode c_M_spread 168 = .ok (.iload 8, 2) := by decide +kernel
theorem d_M_spread_170 : decode c_M_spread 170 = .ok (.if_icmp .ge 7, 3) := by decide +kernel
theorem d_M_spread_173 : decode c_M_spread 173 = .ok (.iconst 1, 1) := by decide +kernel
theorem d_M_spread_174 : decode c_M_spread 174 = .ok (.goto 4, 3) := by decide +kernel
theorem d_M_spread_177 : decode c_M_spread 177 = .ok (.iconst 0, 1) := by decide +kernel
theorem d_M_spread_178 : decode c_M_spread 178 = .ok (.iadd, 1) := by decide +kernel
theorem d_M_spread_179 : decode c_M_spread 179 = .ok (.istore 9, 2) := by decide +kernel
theorem d_M_spread_181 : decode c_M_spread 181 = .ok (.iinc 10 1, 3) := by decide +kernel
theorem d_M_spread_184 : decode c_M_spread 184 = .ok (.goto (-65), 3) := by decide +kernel
theorem d_M_spread_187 : decode c_M_spread 187 = .ok (.aload_n 0, 1) := by decide +kernel
theorem d_M_spread_188 : decode c_M_spread 188 = .ok (.getfield 84, 3) := by decide +kernel
theorem d_M_spread_191 : decode c_M_spread 191 = .ok (.iload 8, 2) := by decide +kernel
theorem d_M_spread_193 : decode c_M_spread 193 = .ok (.iload 9, 2) := by decide +kernel
theorem d_M_spread_195 : decode c_M_spread 195 = .ok (.i2l, 1) := by decide +kernel
theorem d_M_spread_196 : decode c_M_spread 196 = .ok (.lload 6, 2) := by decide +kernel
theorem d_M_spread_198 : decode c_M_spread 198 = .ok (.lcmp, 1) := by decide +kernel
theorem d_M_spread_199 : decode c_M_spread 199 = .ok (.ifCond .ge 7, 3) := by decide +kernel
theorem d_M_spread_202 : decode c_M_spread 202 = .ok (.iconst 1, 1) := by decide +kernel
theorem d_M_spread_203 : decode c_M_spread 203 = .ok (.goto 4, 3) := by decide +kernel
theorem d_M_spread_206 : decode c_M_spread 206 = .ok (.iconst 0, 1) := by decide +kernel
theorem d_M_spread_207 : decode c_M_spread 207 = .ok (.iastore, 1) := by decide +kernel
theorem d_M_spread_208 : decode c_M_spread 208 = .ok (.iinc 8 1, 3) := by decide +kernel
theorem d_M_spread_211 : decode c_M_spread 211 = .ok (.goto (-117), 3) := by decide +kernel
theorem d_M_spread_214 : decode c_M_spread 214 = .ok (.iconst 0, 1) := by decide +kernel
theorem d_M_spread_215 : decode c_M_spread 215 = .ok (.istore 8, 2) := by decide +kernel
theorem d_M_spread_217 : decode c_M_spread 217 = .ok (.iload 8, 2) := by decide +kernel
theorem d_M_spread_219 : decode c_M_spread 219 = .ok (.aload_n 0, 1) := by decide +kernel
theorem d_M_spread_220 : decode c_M_spread 220 = .ok (.getfield 97, 3) := by decide +kernel
theorem d_M_spread_223 : decode c_M_spread 223 = .ok (.if_icmp .ge 47, 3) := by decide +kernel
theorem d_M_spread_226 : decode c_M_spread 226 = .ok (.aload_n 0, 1) := by decide +kernel
theorem d_M_spread_227 : decode c_M_spread 227 = .ok (.getfield 78, 3) := by decide +kernel
theorem d_M_spread_230 : decode c_M_spread 230 = .ok (.iload 8, 2) := by decide +kernel
theorem d_M_spread_232 : decode c_M_spread 232 = .ok (.baload, 1) := by decide +kernel
theorem d_M_spread_233 : decode c_M_spread 233 = .ok (.ifCond .eq 31, 3) := by decide +kernel
theorem d_M_spread_236 : decode c_M_spread 236 = .ok (.aload_n 0, 1) := by decide +kernel
theorem d_M_spread_237 : decode c_M_spread 237 = .ok (.iload_n 1, 1) := by decide +kernel
theorem d_M_spread_238 : decode c_M_spread 238 = .ok (.iload 8, 2) := by decide +kernel
theorem d_M_spread_240 : decode c_M_spread 240 = .ok (.aload_n 0, 1) := by decide +kernel
theorem d_M_spread_241 : decode c_M_spread 241 = .ok (.getfield 60, 3) := by decide +kernel
theorem d_M_spread_244 : decode c_M_spread 244 = .ok (.iload 8, 2) := by decide +kernel
theorem d_M_spread_246 : decode c_M_spread 246 = .ok (.laload, 1) := by decide +kernel
theorem d_M_spread_247 : decode c_M_spread 247 = .ok (.lload_n 2, 1) := by decide +kernel
theorem d_M_spread_248 : decode c_M_spread 248 = .ok (.lmul, 1) := by decide +kernel
theorem d_M_spread_249 : decode c_M_spread 249 = .ok (.lload 4, 2) := by decide +kernel
theorem d_M_spread_251 : decode c_M_spread 251 = .ok (.ldiv, 1) := by decide +kernel
theorem d_M_spread_252 : decode c_M_spread 252 = .ok (.aload_n 0, 1) := by decide +kernel
theorem d_M_spread_253 : decode c_M_spread 253 = .ok (.getfield 84, 3) := by decide +kernel
theorem d_M_spread_256 : decode c_M_spread 256 = .ok (.iload 8, 2) := by decide +kernel
theorem d_M_spread_258 : decode c_M_spread 258 = .ok (.iaload, 1) := by decide +kernel
theorem d_M_spread_259 : decode c_M_spread 259 = .ok (.i2l, 1) := by decide +kernel
theorem d_M_spread_260 : decode c_M_spread 260 = .ok (.ladd, 1) := by decide +kernel
theorem d_M_spread_261 : decode c_M_spread 261 = .ok (.invokevirtual 156, 3) := by decide +kernel
theorem d_M_spread_264 : decode c_M_spread 264 = .ok (.iinc 8 1, 3) := by decide +kernel
theorem d_M_spread_267 : decode c_M_spread 267 = .ok (.goto (-50), 3) := by decide +kernel
theorem d_M_spread_270 : decode c_M_spread 270 = .ok (.return_, 1) := by decide +kernel
theorem d_M_year_0 : decode c_M_year 0 = .ok (.iload_n 1, 1) := by decide +kernel
theorem d_M_year_1 : decode c_M_year 1 = .ok (.i2l, 1) := by decide +kernel
theorem d_M_year_2 : decode c_M_year 2 = .ok (.lconst 0, 1) := by decide +kernel
theorem d_M_year_3 : decode c_M_year 3 = .ok (.ldc2_w 105, 3) := by decide +kernel
theorem d_M_year_6 : decode c_M_year 6 = .ok (.invokestatic 93, 3) := by decide +kernel
theorem d_M_year_9 : decode c_M_year 9 = .ok (.ifCond .ne 7, 3) := by decide +kernel
theorem d_M_year_12 : decode c_M_year 12 = .ok (.iconst 1, 1) := by decide +kernel
theorem d_M_year_13 : decode c_M_year 13 = .ok (.goto 4, 3) := by decide +kernel
theorem d_M_year_16 : decode c_M_year 16 = .ok (.iconst 0, 1) := by decide +kernel
theorem d_M_year_17 : decode c_M_year 17 = .ok (.istore_n 3, 1) := by decide +kernel
theorem d_M_year_18 : decode c_M_year 18 = .ok (.aload_n 0, 1) := by decide +kernel
theorem d_M_year_19 : decode c_M_year 19 = .ok (.iload_n 3, 1) := by decide +kernel
theorem d_M_year_20 : decode c_M_year 20 = .ok (.iload_n 3, 1) := by decide +kernel
theorem d_M_year_21 : decode c_M_year 21 = .ok (.ifCond .ne 17, 3) := by decide +kernel
theorem d_M_year_24 : decode c_M_year 24 = .ok (.aload_n 0, 1) := by decide +kernel
theorem d_M_year_25 : decode c_M_year 25 = .ok (.getfield 57, 3) := by decide +kernel
theorem d_M_year_28 : decode c_M_year 28 = .ok (.iload_n 1, 1) := by decide +kernel
theorem d_M_year_29 : decode c_M_year 29 = .ok (.baload, 1) := by decide +kernel
theorem d_M_year_30 : decode c_M_year 30 = .ok (.iload_n 2, 1) := by decide +kernel
theorem d_M_year_31 : decode c_M_year 31 = .ok (.if_icmp .eq 7, 3) := by decide +kernel
theorem d_M_year_34 : decode c_M_year 34 = .ok (.iconst 1, 1) := by decide +kernel
theorem d_M_year_35 : decode c_M_year 35 = .ok (.goto 4, 3) := by decide +kernel
theorem d_M_year_38 : decode c_M_year 38 = .ok (.iconst 0, 1) := by decide +kernel
theorem d_M_year_39 : decode c_M_year 39 = .ok (.invokevirtual 107, 3) := by decide +kernel
theorem d_M_year_42 : decode c_M_year 42 = .ok (.ifCond .eq 4, 3) := by decide +kernel
theorem d_M_year_45 : decode c_M_year 45 = .ok (.return_, 1) := by decide +kernel
theorem d_M_year_46 : decode c_M_year 46 = .ok (.aload_n 0, 1) := by decide +kernel
theorem d_M_year_47 : decode c_M_year 47 = .ok (.getfield 57, 3) := by decide +kernel
theorem d_M_year_50 : decode c_M_year 50 = .ok (.iload_n 1, 1) := by decide +kernel
theorem d_M_year_51 : decode c_M_year 51 = .ok (.iload_n 2, 1) := by decide +kernel
theorem d_M_year_52 : decode c_M_year 52 = .ok (.ifCond .ne 7, 3) := by decide +kernel
theorem d_M_year_55 : decode c_M_year 55 = .ok (.iconst 1, 1) := by decide +kernel
theorem d_M_year_56 : decode c_M_year 56 = .ok (.goto 4, 3) := by decide +kernel
theorem d_M_year_59 : decode c_M_year 59 = .ok (.iconst 0, 1) := by decide +kernel
theorem d_M_year_60 : decode c_M_year 60 = .ok (.bastore, 1) := by decide +kernel
theorem d_M_year_61 : decode c_M_year 61 = .ok (.return_, 1) := by decide +kernel
theorem d_M_claim_0 : decode c_M_claim 0 = .ok (.aload_n 0, 1) := by decide +kernel
theorem d_M_claim_1 : decode c_M_claim 1 = .ok (.iload_n 1, 1) := by decide +kernel
theorem d_M_claim_2 : decode c_M_claim 2 = .ok (.invokevirtual 111, 3) := by decide +kernel
theorem d_M_claim_5 : decode c_M_claim 5 = .ok (.ifCond .eq 27, 3) := by decide +kernel
theorem d_M_claim_8 : decode c_M_claim 8 = .ok (.iload_n 2, 1) := by decide +kernel
theorem d_M_claim_9 : decode c_M_claim 9 = .ok (.i2l, 1) := by decide +kernel
theorem d_M_claim_10 : decode c_M_claim 10 = .ok (.lconst 0, 1) := by decide +kernel
theorem d_M_claim_11 : decode c_M_claim 11 = .ok (.ldc2_w 134, 3) := by decide +kernel
theorem d_M_claim_14 : decode c_M_claim 14 = .ok (.invokestatic 93, 3) := by decide +kernel
theorem d_M_claim_17 : decode c_M_claim 17 = .ok (.ifCond .eq 15, 3) := by decide +kernel
theorem d_M_claim_20 : decode c_M_claim 20 = .ok (.iload_n 3, 1) := by decide +kernel
theorem d_M_claim_21 : decode c_M_claim 21 = .ok (.i2l, 1) := by decide +kernel
theorem d_M_claim_22 : decode c_M_claim 22 = .ok (.lconst 0, 1) := by decide +kernel
theorem d_M_claim_23 : decode c_M_claim 23 = .ok (.ldc2_w 136, 3) := by decide +kernel
theorem d_M_claim_26 : decode c_M_claim 26 = .ok (.invokestatic 93, 3) := by decide +kernel
theorem d_M_claim_29 : decode c_M_claim 29 = .ok (.ifCond .ne 7, 3) := by decide +kernel
theorem d_M_claim_32 : decode c_M_claim 32 = .ok (.iconst 1, 1) := by decide +kernel
theorem d_M_claim_33 : decode c_M_claim 33 = .ok (.goto 4, 3) := by decide +kernel
theorem d_M_claim_36 : decode c_M_claim 36 = .ok (.iconst 0, 1) := by decide +kernel
theorem d_M_claim_37 : decode c_M_claim 37 = .ok (.istore 4, 2) := by decide +kernel
theorem d_M_claim_39 : decode c_M_claim 39 = .ok (.aload_n 0, 1) := by decide +kernel
theorem d_M_claim_40 : decode c_M_claim 40 = .ok (.iload 4, 2) := by decide +kernel
theorem d_M_claim_42 : decode c_M_claim 42 = .ok (.iload 4, 2) := by decide +kernel
theorem d_M_claim_44 : decode c_M_claim 44 = .ok (.ifCond .ne 30, 3) := by decide +kernel
theorem d_M_claim_47 : decode c_M_claim 47 = .ok (.aload_n 0, 1) := by decide +kernel
theorem d_M_claim_48 : decode c_M_claim 48 = .ok (.getfield 97, 3) := by decide +kernel
theorem d_M_claim_51 : decode c_M_claim 51 = .ok (.bipush 40, 2) := by decide +kernel
theorem d_M_claim_53 : decode c_M_claim 53 = .ok (.if_icmp .eq 17, 3) := by decide +kernel
theorem d_M_claim_56 : decode c_M_claim 56 = .ok (.aload_n 0, 1) := by decide +kernel
theorem d_M_claim_57 : decode c_M_claim 57 = .ok (.getfield 57, 3) := by decide +kernel
theorem d_M_claim_60 : decode c_M_claim 60 = .ok (.aload_n 0, 1) := by decide +kernel
theorem d_M_claim_61 : decode c_M_claim 61 = .ok (.getfield 16, 3) := by decide +kernel
theorem d_M_claim_64 : decode c_M_claim 64 = .ok (.iload_n 1, 1) := by decide +kernel
theorem d_M_claim_65 : decode c_M_claim 65 = .ok (.iaload, 1) := by decide +kernel
theorem d_M_claim_66 : decode c_M_claim 66 = .ok (.baload, 1) := by decide +kernel
theorem d_M_claim_67 : decode c_M_claim 67 = .ok (.ifCond .eq 7, 3) := by decide +kernel
theorem d_M_claim_70 : decode c_M_claim 70 = .ok (.iconst 1, 1) := by decide +kernel
theorem d_M_claim_71 : decode c_M_claim 71 = .ok (.goto 4, 3) := by decide +kernel
theorem d_M_claim_74 : decode c_M_claim 74 = .ok (.iconst 0, 1) := by decide +kernel
theorem d_M_claim_75 : decode c_M_claim 75 = .ok (.invokevirtual 107, 3) := by decide +kernel
theorem d_M_claim_78 : decode c_M_claim 78 = .ok (.ifCond .eq 5, 3) := by decide +kernel
theorem d_M_claim_81 : decode c_M_claim 81 = .ok (.iconst 0, 1) := by decide +kernel
theorem d_M_claim_82 : decode c_M_claim 82 = .ok (.ireturn, 1) := by decide +kernel
theorem d_M_claim_83 : decode c_M_claim 83 = .ok (.aload_n 0, 1) := by decide +kernel
theorem d_M_claim_84 : decode c_M_claim 84 = .ok (.getfield 19, 3) := by decide +kernel
theorem d_M_claim_87 : decode c_M_claim 87 = .ok (.aload_n 0, 1) := by decide +kernel
theorem d_M_claim_88 : decode c_M_claim 88 = .ok (.getfield 97, 3) := by decide +kernel
theorem d_M_claim_91 : decode c_M_claim 91 = .ok (.iload_n 1, 1) := by decide +kernel
theorem d_M_claim_92 : decode c_M_claim 92 = .ok (.iastore, 1) := by decide +kernel
theorem d_M_claim_93 : decode c_M_claim 93 = .ok (.aload_n 0, 1) := by decide +kernel
theorem d_M_claim_94 : decode c_M_claim 94 = .ok (.getfield 22, 3) := by decide +kernel
theorem d_M_claim_97 : decode c_M_claim 97 = .ok (.aload_n 0, 1) := by decide +kernel
theorem d_M_claim_98 : decode c_M_claim 98 = .ok (.getfield 97, 3) := by decide +kernel
theorem d_M_claim_101 : decode c_M_claim 101 = .ok (.iload_n 2, 1) := by decide +kernel
theorem d_M_claim_102 : decode c_M_claim 102 = .ok (.iastore, 1) := by decide +kernel
theorem d_M_claim_103 : decode c_M_claim 103 = .ok (.aload_n 0, 1) := by decide +kernel
theorem d_M_claim_104 : decode c_M_claim 104 = .ok (.getfield 25, 3) := by decide +kernel
theorem d_M_claim_107 : decode c_M_claim 107 = .ok (.aload_n 0, 1) := by decide +kernel
theorem d_M_claim_108 : decode c_M_claim 108 = .ok (.getfield 97, 3) := by decide +kernel
theorem d_M_claim_111 : decode c_M_claim 111 = .ok (.iload_n 3, 1) := by decide +kernel
theorem d_M_claim_112 : decode c_M_claim 112 = .ok (.iastore, 1) := by decide +kernel
theorem d_M_claim_113 : decode c_M_claim 113 = .ok (.aload_n 0, 1) := by decide +kernel
theorem d_M_claim_114 : decode c_M_claim 114 = .ok (.dup, 1) := by decide +kernel
theorem d_M_claim_115 : decode c_M_claim 115 = .ok (.getfield 97, 3) := by decide +kernel
theorem d_M_claim_118 : decode c_M_claim 118 = .ok (.iconst 1, 1) := by decide +kernel
theorem d_M_claim_119 : decode c_M_claim 119 = .ok (.iadd, 1) := by decide +kernel
theorem d_M_claim_120 : decode c_M_claim 120 = .ok (.putfield 97, 3) := by decide +kernel
theorem d_M_claim_123 : decode c_M_claim 123 = .ok (.aload_n 0, 1) := by decide +kernel
theorem d_M_claim_124 : decode c_M_claim 124 = .ok (.getfield 97, 3) := by decide +kernel
theorem d_M_claim_127 : decode c_M_claim 127 = .ok (.iconst 1, 1) := by decide +kernel
theorem d_M_claim_128 : decode c_M_claim 128 = .ok (.isub, 1) := by decide +kernel
theorem d_M_claim_129 : decode c_M_claim 129 = .ok (.ireturn, 1) := by decide +kernel
theorem d_M_commission_0 : decode c_M_commission 0 = .ok (.aload_n 0, 1) := by decide +kernel
theorem d_M_commission_1 : decode c_M_commission 1 = .ok (.iload_n 1, 1) := by decide +kernel
theorem d_M_commission_2 : decode c_M_commission 2 = .ok (.invokevirtual 144, 3) := by decide +kernel
theorem d_M_commission_5 : decode c_M_commission 5 = .ok (.iconst 1, 1) := by decide +kernel
theorem d_M_commission_6 : decode c_M_commission 6 = .ok (.if_icmp .le 5, 3) := by decide +kernel
theorem d_M_commission_9 : decode c_M_commission 9 = .ok (.lconst 0, 1) := by decide +kernel
theorem d_M_commission_10 : decode c_M_commission 10 = .ok (.lreturn, 1) := by decide +kernel
theorem d_M_commission_11 : decode c_M_commission 11 = .ok (.aload_n 0, 1) := by decide +kernel
theorem d_M_commission_12 : decode c_M_commission 12 = .ok (.iload_n 1, 1) := by decide +kernel
theorem d_M_commission_13 : decode c_M_commission 13 = .ok (.invokevirtual 199, 3) := by decide +kernel
theorem d_M_commission_16 : decode c_M_commission 16 = .ok (.lstore_n 2, 1) := by decide +kernel
theorem d_M_commission_17 : decode c_M_commission 17 = .ok (.lload_n 2, 1) := by decide +kernel
theorem d_M_commission_18 : decode c_M_commission 18 = .ok (.ldc2_w 203, 3) := by decide +kernel
theorem d_M_commission_21 : decode c_M_commission 21 = .ok (.lcmp, 1) := by decide +kernel
theorem d_M_commission_22 : decode c_M_commission 22 = .ok (.ifCond .gt 9, 3) := by decide +kernel
theorem d_M_commission_25 : decode c_M_commission 25 = .ok (.ldc2_w 205, 3) := by decide +kernel
theorem d_M_commission_28 : decode c_M_commission 28 = .ok (.goto 12, 3) := by decide +kernel
theorem d_M_commission_31 : decode c_M_commission 31 = .ok (.ldc2_w 205, 3) := by decide +kernel
theorem d_M_commission_34 : decode c_M_commission 34 = .ok (.lload_n 2, 1) := by decide +kernel
theorem d_M_commission_35 : decode c_M_commission 35 = .ok (.ldc2_w 203, 3) := by decide +kernel
theorem d_M_commission_38 : decode c_M_commission 38 = .ok (.lsub, 1) := by decide +kernel
theorem d_M_commission_39 : decode c_M_commission 39 = .ok (.lsub, 1) := by decide +kernel
theorem d_M_commission_40 : decode c_M_commission 40 = .ok (.lstore 4, 2) := by decide +kernel
theorem d_M_commission_42 : decode c_M_commission 42 = .ok (.aload_n 0, 1) := by decide +kernel
theorem d_M_commission_43 : decode c_M_commission 43 = .ok (.getfield 69, 3) := by decide +kernel
theorem d_M_commission_46 : decode c_M_commission 46 = .ok (.iload_n 1, 1) := by decide +kernel
theorem d_M_commission_47 : decode c_M_commission 47 = .ok (.laload, 1) := by decide +kernel
theorem d_M_commission_48 : decode c_M_commission 48 = .ok (.lload 4, 2) := by decide +kernel
theorem d_M_commission_50 : decode c_M_commission 50 = .ok (.ldc2_w 136, 3) := by decide +kernel
theorem d_M_commission_53 : decode c_M_commission 53 = .ok (.lcmp, 1) := by decide +kernel
theorem d_M_commission_54 : decode c_M_commission 54 = .ok (.ifCond .ge 9, 3) := by decide +kernel
theorem d_M_commission_57 : decode c_M_commission 57 = .ok (.ldc2_w 136, 3) := by decide +kernel
theorem d_M_commission_60 : decode c_M_commission 60 = .ok (.goto 5, 3) := by decide +kernel
theorem d_M_commission_63 : decode c_M_commission 63 = .ok (.lload 4, 2) := by decide +kernel
theorem d_M_commission_65 : decode c_M_commission 65 = .ok (.lmul, 1) := by decide +kernel
theorem d_M_commission_66 : decode c_M_commission 66 = .ok (.ldc2_w 115, 3) := by decide +kernel
theorem d_M_commission_69 : decode c_M_commission 69 = .ok (.ldiv, 1) := by decide +kernel
theorem d_M_commission_70 : decode c_M_commission 70 = .ok (.lreturn, 1) := by decide +kernel
theorem d_M_estimate_0 : decode c_M_estimate 0 = .ok (.aload_n 0, 1) := by decide +kernel
theorem d_M_estimate_1 : decode c_M_estimate 1 = .ok (.iload_n 1, 1) := by decide +kernel
theorem d_M_estimate_2 : decode c_M_estimate 2 = .ok (.invokevirtual 138, 3) := by decide +kernel
theorem d_M_estimate_5 : decode c_M_estimate 5 = .ok (.ifCond .eq 15, 3) := by decide +kernel
theorem d_M_estimate_8 : decode c_M_estimate 8 = .ok (.iload_n 2, 1) := by decide +kernel
theorem d_M_estimate_9 : decode c_M_estimate 9 = .ok (.i2l, 1) := by decide +kernel
theorem d_M_estimate_10 : decode c_M_estimate 10 = .ok (.lconst 0, 1) := by decide +kernel
theorem d_M_estimate_11 : decode c_M_estimate 11 = .ok (.ldc2_w 103, 3) := by decide +kernel
theorem d_M_estimate_14 : decode c_M_estimate 14 = .ok (.invokestatic 93, 3) := by decide +kernel
theorem d_M_estimate_17 : decode c_M_estimate 17 = .ok (.ifCond .ne 7, 3) := by decide +kernel
theorem d_M_estimate_20 : decode c_M_estimate 20 = .ok (.iconst 1, 1) := by decide +kernel
theorem d_M_estimate_21 : decode c_M_estimate 21 = .ok (.goto 4, 3) := by decide +kernel
theorem d_M_estimate_24 : decode c_M_estimate 24 = .ok (.iconst 0, 1) := by decide +kernel
theorem d_M_estimate_25 : decode c_M_estimate 25 = .ok (.istore_n 3, 1) := by decide +kernel
theorem d_M_estimate_26 : decode c_M_estimate 26 = .ok (.aload_n 0, 1) := by decide +kernel
theorem d_M_estimate_27 : decode c_M_estimate 27 = .ok (.iload_n 3, 1) := by decide +kernel
theorem d_M_estimate_28 : decode c_M_estimate 28 = .ok (.iload_n 3, 1) := by decide +kernel
theorem d_M_estimate_29 : decode c_M_estimate 29 = .ok (.ifCond .ne 29, 3) := by decide +kernel
theorem d_M_estimate_32 : decode c_M_estimate 32 = .ok (.aload_n 0, 1) := by decide +kernel
theorem d_M_estimate_33 : decode c_M_estimate 33 = .ok (.getfield 31, 3) := by decide +kernel
theorem d_M_estimate_36 : decode c_M_estimate 36 = .ok (.iload_n 1, 1) := by decide +kernel
theorem d_M_estimate_37 : decode c_M_estimate 37 = .ok (.baload, 1) := by decide +kernel
theorem d_M_estimate_38 : decode c_M_estimate 38 = .ok (.ifCond .ne 16, 3) := by decide +kernel
theorem d_M_estimate_41 : decode c_M_estimate 41 = .ok (.aload_n 0, 1) := by decide +kernel
theorem d_M_estimate_42 : decode c_M_estimate 42 = .ok (.getfield 57, 3) := by decide +kernel
theorem d_M_estimate_45 : decode c_M_estimate 45 = .ok (.aload_n 0, 1) := by decide +kernel
theorem d_M_estimate_46 : decode c_M_estimate 46 = .ok (.iload_n 1, 1) := by decide +kernel
theorem d_M_estimate_47 : decode c_M_estimate 47 = .ok (.invokevirtual 141, 3) := by decide +kernel
theorem d_M_estimate_50 : decode c_M_estimate 50 = .ok (.baload, 1) := by decide +kernel
theorem d_M_estimate_51 : decode c_M_estimate 51 = .ok (.ifCond .eq 7, 3) := by decide +kernel
theorem d_M_estimate_54 : decode c_M_estimate 54 = .ok (.iconst 1, 1) := by decide +kernel
theorem d_M_estimate_55 : decode c_M_estimate 55 = .ok (.goto 4, 3) := by decide +kernel
theorem d_M_estimate_58 : decode c_M_estimate 58 = .ok (.iconst 0, 1) := by decide +kernel
theorem d_M_estimate_59 : decode c_M_estimate 59 = .ok (.invokevirtual 107, 3) := by decide +kernel
theorem d_M_estimate_62 : decode c_M_estimate 62 = .ok (.ifCond .eq 4, 3) := by decide +kernel
theorem d_M_estimate_65 : decode c_M_estimate 65 = .ok (.return_, 1) := by decide +kernel
theorem d_M_estimate_66 : decode c_M_estimate 66 = .ok (.aload_n 0, 1) := by decide +kernel
theorem d_M_estimate_67 : decode c_M_estimate 67 = .ok (.getfield 28, 3) := by decide +kernel
theorem d_M_estimate_70 : decode c_M_estimate 70 = .ok (.iload_n 1, 1) := by decide +kernel
theorem d_M_estimate_71 : decode c_M_estimate 71 = .ok (.iload_n 2, 1) := by decide +kernel
theorem d_M_estimate_72 : decode c_M_estimate 72 = .ok (.iastore, 1) := by decide +kernel
theorem d_M_estimate_73 : decode c_M_estimate 73 = .ok (.return_, 1) := by decide +kernel
theorem d_M_excessOfRisks_0 : decode c_M_excessOfRisks 0 = .ok (.iconst 0, 1) := by decide +kernel
theorem d_M_excessOfRisks_1 : decode c_M_excessOfRisks 1 = .ok (.istore_n 2, 1) := by decide +kernel
theorem d_M_excessOfRisks_2 : decode c_M_excessOfRisks 2 = .ok (.iload_n 2, 1) := by decide +kernel
theorem d_M_excessOfRisks_3 : decode c_M_excessOfRisks 3 = .ok (.aload_n 0, 1) := by decide +kernel
theorem d_M_excessOfRisks_4 : decode c_M_excessOfRisks 4 = .ok (.getfield 97, 3) := by decide +kernel
theorem d_M_excessOfRisks_7 : decode c_M_excessOfRisks 7 = .ok (.if_icmp .ge 25, 3) := by decide +kernel
theorem d_M_excessOfRisks_10 : decode c_M_excessOfRisks 10 = .ok (.aload_n 0, 1) := by decide +kernel
theorem d_M_excessOfRisks_11 : decode c_M_excessOfRisks 11 = .ok (.getfield 78, 3) := by decide +kernel
theorem d_M_excessOfRisks_14 : decode c_M_excessOfRisks 14 = .ok (.iload_n 2, 1) := by decide +kernel
theorem d_M_excessOfRisks_15 : decode c_M_excessOfRisks 15 = .ok (.aload_n 0, 1) := by decide +kernel
theorem d_M_excessOfRisks_16 : decode c_M_excessOfRisks 16 = .ok (.iload_n 2, 1) := by decide +kernel
theorem d_M_excessOfRisks_17 : decode c_M_excessOfRisks 17 = .ok (.aload_n 0, 1) := by decide +kernel
theorem d_M_excessOfRisks_18 : decode c_M_excessOfRisks 18 = .ok (.iload_n 1, 1) := by decide +kernel
theorem d_M_excessOfRisks_19 : decode c_M_excessOfRisks 19 = .ok (.invokevirtual 130, 3) := by decide +kernel
theorem d_M_excessOfRisks_22 : decode c_M_excessOfRisks 22 = .ok (.invokevirtual 160, 3) := by decide +kernel
theorem d_M_excessOfRisks_25 : decode c_M_excessOfRisks 25 = .ok (.bastore, 1) := by decide +kernel
theorem d_M_excessOfRisks_26 : decode c_M_excessOfRisks 26 = .ok (.iinc 2 1, 3) := by decide +kernel
theorem d_M_excessOfRisks_29 : decode c_M_excessOfRisks 29 = .ok (.goto (-27), 3) := by decide +kernel
theorem d_M_excessOfRisks_32 : decode c_M_excessOfRisks 32 = .ok (.iconst 0, 1) := by decide +kernel
theorem d_M_excessOfRisks_33 : decode c_M_excessOfRisks 33 = .ok (.istore_n 2, 1) := by decide +kernel
theorem d_M_excessOfRisks_34 : decode c_M_excessOfRisks 34 = .ok (.iload_n 2, 1) := by decide +kernel
theorem d_M_excessOfRisks_35 : decode c_M_excessOfRisks 35 = .ok (.ifCond .lt 103, 3) := by decide +kernel
theorem d_M_excessOfRisks_38 : decode c_M_excessOfRisks 38 = .ok (.iconst (-1), 1) := by decide +kernel
theorem d_M_excessOfRisks_39 : decode c_M_excessOfRisks 39 = .ok (.istore_n 2, 1) := by decide +kernel
theorem d_M_excessOfRisks_40 : decode c_M_excessOfRisks 40 = .ok (.iconst 0, 1) := by decide +kernel
theorem d_M_excessOfRisks_41 : decode c_M_excessOfRisks 41 = .ok (.istore_n 3, 1) := by decide +kernel
theorem d_M_excessOfRisks_42 : decode c_M_excessOfRisks 42 = .ok (.iload_n 3, 1) := by decide +kernel
theorem d_M_excessOfRisks_43 : decode c_M_excessOfRisks 43 = .ok (.aload_n 0, 1) := by decide +kernel
theorem d_M_excessOfRisks_44 : decode c_M_excessOfRisks 44 = .ok (.getfield 97, 3) := by decide +kernel
theorem d_M_excessOfRisks_47 : decode c_M_excessOfRisks 47 = .ok (.if_icmp .ge 43, 3) := by decide +kernel
theorem d_M_excessOfRisks_50 : decode c_M_excessOfRisks 50 = .ok (.aload_n 0, 1) := by decide +kernel
theorem d_M_excessOfRisks_51 : decode c_M_excessOfRisks 51 = .ok (.getfield 78, 3) := by decide +kernel
theorem d_M_excessOfRisks_54 : decode c_M_excessOfRisks 54 = .ok (.iload_n 3, 1) := by decide +kernel
theorem d_M_excessOfRisks_55 : decode c_M_excessOfRisks 55 = .ok (.baload, 1) := by decide +kernel
theorem d_M_excessOfRisks_56 : decode c_M_excessOfRisks 56 = .ok (.ifCond .eq 26, 3) := by decide +kernel
theorem d_M_excessOfRisks_59 : decode c_M_excessOfRisks 59 = .ok (.iload_n 2, 1) := by decide +kernel
theorem d_M_excessOfRisks_60 : decode c_M_excessOfRisks 60 = .ok (.ifCond .lt 18, 3) := by decide +kernel
theorem d_M_excessOfRisks_63 : decode c_M_excessOfRisks 63 = .ok (.aload_n 0, 1) := by decide +kernel
theorem d_M_excessOfRisks_64 : decode c_M_excessOfRisks 64 = .ok (.getfield 25, 3) := by decide +kernel
theorem d_M_excessOfRisks_67 : decode c_M_excessOfRisks 67 = .ok (.iload_n 3, 1) := by decide +kernel
theorem d_M_excessOfRisks_68 : decode c_M_excessOfRisks 68 = .ok (.iaload, 1) := by decide +kernel
theorem d_M_excessOfRisks_69 : decode c_M_excessOfRisks 69 = .ok (.aload_n 0, 1) := by decide +kernel
theorem d_M_excessOfRisks_70 : decode c_M_excessOfRisks 70 = .ok (.getfield 25, 3) := by decide +kernel
theorem d_M_excessOfRisks_73 : decode c_M_excessOfRisks 73 = .ok (.iload_n 2, 1) := by decide +kernel
theorem d_M_excessOfRisks_74 : decode c_M_excessOfRisks 74 = .ok (.iaload, 1) := by decide +kernel
theorem d_M_excessOfRisks_75 : decode c_M_excessOfRisks 75 = .ok (.if_icmp .ge 7, 3) := by decide +kernel
theorem d_M_excessOfRisks_78 : decode c_M_excessOfRisks 78 = .ok (.iload_n 3, 1) := by decide +kernel
theorem d_M_excessOfRisks_79 : decode c_M_excessOfRisks 79 = .ok (.goto 4, 3) := by decide +kernel
theorem d_M_excessOfRisks_82 : decode c_M_excessOfRisks 82 = .ok (.iload_n 2, 1) := by decide +kernel
theorem d_M_excessOfRisks_83 : decode c_M_excessOfRisks 83 = .ok (.istore_n 2, 1) := by decide +kernel
theorem d_M_excessOfRisks_84 : decode c_M_excessOfRisks 84 = .ok (.iinc 3 1, 3) := by decide +kernel
theorem d_M_excessOfRisks_87 : decode c_M_excessOfRisks 87 = .ok (.goto (-45), 3) := by decide +kernel
theorem d_M_excessOfRisks_90 : decode c_M_excessOfRisks 90 = .ok (.iload_n 2, 1) := by decide +kernel
theorem d_M_excessOfRisks_91 : decode c_M_excessOfRisks 91 = .ok (.ifCond .lt (-57), 3) := by decide +kernel
theorem d_M_excessOfRisks_94 : decode c_M_excessOfRisks 94 = .ok (.aload_n 0, 1) := by decide +kernel
theorem d_M_excessOfRisks_95 : decode c_M_excessOfRisks 95 = .ok (.getfield 78, 3) := by decide +kernel
theorem d_M_excessOfRisks_98 : decode c_M_excessOfRisks 98 = .ok (.iload_n 2, 1) := by decide +kernel
theorem d_M_excessOfRisks_99 : decode c_M_excessOfRisks 99 = .ok (.iconst 0, 1) := by decide +kernel
theorem d_M_excessOfRisks_100 : decode c_M_excessOfRisks 100 = .ok (.bastore, 1) := by decide +kernel
theorem d_M_excessOfRisks_101 : decode c_M_excessOfRisks 101 = .ok (.aload_n 0, 1) := by decide +kernel
theorem d_M_excessOfRisks_102 : decode c_M_excessOfRisks 102 = .ok (.iload_n 1, 1) := by decide +kernel
theorem d_M_excessOfRisks_103 : decode c_M_excessOfRisks 103 = .ok (.iload_n 2, 1) := by decide +kernel
theorem d_M_excessOfRisks_104 : decode c_M_excessOfRisks 104 = .ok (.aload_n 0, 1) := by decide +kernel
theorem d_M_excessOfRisks_105 : decode c_M_excessOfRisks 105 = .ok (.iload_n 1, 1) := by decide +kernel
theorem d_M_excessOfRisks_106 : decode c_M_excessOfRisks 106 = .ok (.aload_n 0, 1) := by decide +kernel
theorem d_M_excessOfRisks_107 : decode c_M_excessOfRisks 107 = .ok (.getfield 60, 3) := by decide +kernel
theorem d_M_excessOfRisks_110 : decode c_M_excessOfRisks 110 = .ok (.iload_n 2, 1) := by decide +kernel
theorem d_M_excessOfRisks_111 : decode c_M_excessOfRisks 111 = .ok (.laload, 1) := by decide +kernel
theorem d_M_excessOfRisks_112 : decode c_M_excessOfRisks 112 = .ok (.aload_n 0, 1) := by decide +kernel
theorem d_M_excessOfRisks_113 : decode c_M_excessOfRisks 113 = .ok (.getfield 38, 3) := by decide +kernel
theorem d_M_excessOfRisks_116 : decode c_M_excessOfRisks 116 = .ok (.iload_n 1, 1) := by decide +kernel
theorem d_M_excessOfRisks_117 : decode c_M_excessOfRisks 117 = .ok (.iaload, 1) := by decide +kernel
theorem d_M_excessOfRisks_118 : decode c_M_excessOfRisks 118 = .ok (.i2l, 1) := by decide +kernel
theorem d_M_excessOfRisks_119 : decode c_M_excessOfRisks 119 = .ok (.aload_n 0, 1) := by decide +kernel
theorem d_M_excessOfRisks_120 : decode c_M_excessOfRisks 120 = .ok (.getfield 41, 3) := by decide +kernel
theorem d_M_excessOfRisks_123 : decode c_M_excessOfRisks 123 = .ok (.iload_n 1, 1) := by decide +kernel
theorem d_M_excessOfRisks_124 : decode c_M_excessOfRisks 124 = .ok (.iaload, 1) := by decide +kernel
theorem d_M_excessOfRisks_125 : decode c_M_excessOfRisks 125 = .ok (.i2l, 1) := by decide +kernel
theorem d_M_excessOfRisks_126 : decode c_M_excessOfRisks 126 = .ok (.invokestatic 164, 3) := by decide +kernel
theorem d_M_excessOfRisks_129 : decode c_M_excessOfRisks 129 = .ok (.invokevirtual 168, 3) := by decide +kernel
theorem d_M_excessOfRisks_132 : decode c_M_excessOfRisks 132 = .ok (.invokevirtual 156, 3) := by decide +kernel
theorem d_M_excessOfRisks_135 : decode c_M_excessOfRisks 135 = .ok (.goto (-101), 3) := by decide +kernel
theorem d_M_excessOfRisks_138 : decode c_M_excessOfRisks 138 = .ok (.return_, 1) := by decide +kernel
theorem d_M_inWindow_0 : decode c_M_inWindow 0 = .ok (.lconst 0, 1) := by decide +kernel
theorem d_M_inWindow_1 : decode c_M_inWindow 1 = .ok (.lstore 4, 2) := by decide +kernel
theorem d_M_inWindow_3 : decode c_M_inWindow 3 = .ok (.iconst 0, 1) := by decide +kernel
theorem d_M_inWindow_4 : decode c_M_inWindow 4 = .ok (.istore 6, 2) := by decide +kernel
theorem d_M_inWindow_6 : decode c_M_inWindow 6 = .ok (.iload 6, 2) := by decide +kernel
theorem d_M_inWindow_8 : decode c_M_inWindow 8 = .ok (.aload_n 0, 1) := by decide +kernel
theorem d_M_inWindow_9 : decode c_M_inWindow 9 = .ok (.getfield 97, 3) := by decide +kernel
theorem d_M_inWindow_12 : decode c_M_inWindow 12 = .ok (.if_icmp .ge 73, 3) := by decide +kernel
theorem d_M_inWindow_15 : decode c_M_inWindow 15 = .ok (.lload 4, 2) := by decide +kernel
theorem d_M_inWindow_17 : decode c_M_inWindow 17 = .ok (.aload_n 0, 1) := by decide +kernel
theorem d_M_inWindow_18 : decode c_M_inWindow 18 = .ok (.iload 6, 2) := by decide +kernel
theorem d_M_inWindow_20 : decode c_M_inWindow 20 = .ok (.aload_n 0, 1) := by decide +kernel
theorem d_M_inWindow_21 : decode c_M_inWindow 21 = .ok (.iload_n 1, 1) := by decide +kernel
theorem d_M_inWindow_22 : decode c_M_inWindow 22 = .ok (.invokevirtual 130, 3) := by decide +kernel
theorem d_M_inWindow_25 : decode c_M_inWindow 25 = .ok (.invokevirtual 160, 3) := by decide +kernel
theorem d_M_inWindow_28 : decode c_M_inWindow 28 = .ok (.ifCond .eq 47, 3) := by decide +kernel
theorem d_M_inWindow_31 : decode c_M_inWindow 31 = .ok (.aload_n 0, 1) := by decide +kernel
theorem d_M_inWindow_32 : decode c_M_inWindow 32 = .ok (.getfield 22, 3) := by decide +kernel
theorem d_M_inWindow_35 : decode c_M_inWindow 35 = .ok (.iload 6, 2) := by decide +kernel
theorem d_M_inWindow_37 : decode c_M_inWindow 37 = .ok (.iaload, 1) := by decide +kernel
theorem d_M_inWindow_38 : decode c_M_inWindow 38 = .ok (.iload_n 2, 1) := by decide +kernel
theorem d_M_inWindow_39 : decode c_M_inWindow 39 = .ok (.if_icmp .ne 36, 3) := by decide +kernel
theorem d_M_inWindow_42 : decode c_M_inWindow 42 = .ok (.aload_n 0, 1) := by decide +kernel
theorem d_M_inWindow_43 : decode c_M_inWindow 43 = .ok (.getfield 25, 3) := by decide +kernel
theorem d_M_inWindow_46 : decode c_M_inWindow 46 = .ok (.iload 6, 2) := by decide +kernel
theorem d_M_inWindow_48 : decode c_M_inWindow 48 = .ok (.iaload, 1) := by decide +kernel
theorem d_M_inWindow_49 : decode c_M_inWindow 49 = .ok (.i2l, 1) := by decide +kernel
theorem d_M_inWindow_50 : decode c_M_inWindow 50 = .ok (.iload_n 3, 1) := by decide +kernel
theorem d_M_inWindow_51 : decode c_M_inWindow 51 = .ok (.i2l, 1) := by decide +kernel
theorem d_M_inWindow_52 : decode c_M_inWindow 52 = .ok (.iload_n 3, 1) := by decide +kernel
theorem d_M_inWindow_53 : decode c_M_inWindow 53 = .ok (.bipush 72, 2) := by decide +kernel
theorem d_M_inWindow_55 : decode c_M_inWindow 55 = .ok (.iadd, 1) := by decide +kernel
theorem d_M_inWindow_56 : decode c_M_inWindow 56 = .ok (.iconst 1, 1) := by decide +kernel
theorem d_M_inWindow_57 : decode c_M_inWindow 57 = .ok (.isub, 1) := by decide +kernel
theorem d_M_inWindow_58 : decode c_M_inWindow 58 = .ok (.i2l, 1) := by decide +kernel
theorem d_M_inWindow_59 : decode c_M_inWindow 59 = .ok (.invokestatic 93, 3) := by decide +kernel
theorem d_M_inWindow_62 : decode c_M_inWindow 62 = .ok (.ifCond .eq 13, 3) := by decide +kernel
theorem d_M_inWindow_65 : decode c_M_inWindow 65 = .ok (.aload_n 0, 1) := by decide +kernel
theorem d_M_inWindow_66 : decode c_M_inWindow 66 = .ok (.getfield 60, 3) := by decide +kernel
theorem d_M_inWindow_69 : decode c_M_inWindow 69 = .ok (.iload 6, 2) := by decide +kernel
theorem d_M_inWindow_71 : decode c_M_inWindow 71 = .ok (.laload, 1) := by decide +kernel
theorem d_M_inWindow_72 : decode c_M_inWindow 72 = .ok (.goto 4, 3) := by decide +kernel
theorem d_M_inWindow_75 : decode c_M_inWindow 75 = .ok (.lconst 0, 1) := by decide +kernel
theorem d_M_inWindow_76 : decode c_M_inWindow 76 = .ok (.ladd, 1) := by decide +kernel
theorem d_M_inWindow_77 : decode c_M_inWindow 77 = .ok (.lstore 4, 2) := by decide +kernel
theorem d_M_inWindow_79 : decode c_M_inWindow 79 = .ok (.iinc 6 1, 3) := by decide +kernel
theorem d_M_inWindow_82 : decode c_M_inWindow 82 = .ok (.goto (-76), 3) := by decide +kernel
theorem d_M_inWindow_85 : decode c_M_inWindow 85 = .ok (.lload 4, 2) := by decide +kernel
theorem d_M_inWindow_87 : decode c_M_inWindow 87 = .ok (.lreturn, 1) := by decide +kernel
theorem d_M_premium_0 : decode c_M_premium 0 = .ok (.aload_n 0, 1) := by decide +kernel
theorem d_M_premium_1 : decode c_M_premium 1 = .ok (.iload_n 1, 1) := by decide +kernel
theorem d_M_premium_2 : decode c_M_premium 2 = .ok (.invokevirtual 111, 3) := by decide +kernel
theorem d_M_premium_5 : decode c_M_premium 5 = .ok (.ifCond .eq 15, 3) := by decide +kernel
theorem d_M_premium_8 : decode c_M_premium 8 = .ok (.iload_n 2, 1) := by decide +kernel
theorem d_M_premium_9 : decode c_M_premium 9 = .ok (.i2l, 1) := by decide +kernel
theorem d_M_premium_10 : decode c_M_premium 10 = .ok (.lconst 0, 1) := by decide +kernel
theorem d_M_premium_11 : decode c_M_premium 11 = .ok (.ldc2_w 103, 3) := by decide +kernel
theorem d_M_premium_14 : decode c_M_premium 14 = .ok (.invokestatic 93, 3) := by decide +kernel
theorem d_M_premium_17 : decode c_M_premium 17 = .ok (.ifCond .ne 7, 3) := by decide +kernel
theorem d_M_premium_20 : decode c_M_premium 20 = .ok (.iconst 1, 1) := by decide +kernel
theorem d_M_premium_21 : decode c_M_premium 21 = .ok (.goto 4, 3) := by decide +kernel
theorem d_M_premium_24 : decode c_M_premium 24 = .ok (.iconst 0, 1) := by decide +kernel
theorem d_M_premium_25 : decode c_M_premium 25 = .ok (.istore_n 3, 1) := by decide +kernel
theorem d_M_premium_26 : decode c_M_premium 26 = .ok (.aload_n 0, 1) := by decide +kernel
theorem d_M_premium_27 : decode c_M_premium 27 = .ok (.iload_n 3, 1) := by decide +kernel
theorem d_M_premium_28 : decode c_M_premium 28 = .ok (.iload_n 3, 1) := by decide +kernel
theorem d_M_premium_29 : decode c_M_premium 29 = .ok (.ifCond .ne 21, 3) := by decide +kernel
theorem d_M_premium_32 : decode c_M_premium 32 = .ok (.aload_n 0, 1) := by decide +kernel
theorem d_M_premium_33 : decode c_M_premium 33 = .ok (.getfield 57, 3) := by decide +kernel
theorem d_M_premium_36 : decode c_M_premium 36 = .ok (.aload_n 0, 1) := by decide +kernel
theorem d_M_premium_37 : decode c_M_premium 37 = .ok (.getfield 16, 3) := by decide +kernel
theorem d_M_premium_40 : decode c_M_premium 40 = .ok (.iload_n 1, 1) := by decide +kernel
theorem d_M_premium_41 : decode c_M_premium 41 = .ok (.iaload, 1) := by decide +kernel
theorem d_M_premium_42 : decode c_M_premium 42 = .ok (.baload, 1) := by decide +kernel
theorem d_M_premium_43 : decode c_M_premium 43 = .ok (.ifCond .eq 7, 3) := by decide +kernel
theorem d_M_premium_46 : decode c_M_premium 46 = .ok (.iconst 1, 1) := by decide +kernel
theorem d_M_premium_47 : decode c_M_premium 47 = .ok (.goto 4, 3) := by decide +kernel
theorem d_M_premium_50 : decode c_M_premium 50 = .ok (.iconst 0, 1) := by decide +kernel
theorem d_M_premium_51 : decode c_M_premium 51 = .ok (.invokevirtual 107, 3) := by decide +kernel
theorem d_M_premium_54 : decode c_M_premium 54 = .ok (.ifCond .eq 4, 3) := by decide +kernel
theorem d_M_premium_57 : decode c_M_premium 57 = .ok (.return_, 1) := by decide +kernel
theorem d_M_premium_58 : decode c_M_premium 58 = .ok (.aload_n 0, 1) := by decide +kernel
theorem d_M_premium_59 : decode c_M_premium 59 = .ok (.getfield 13, 3) := by decide +kernel
theorem d_M_premium_62 : decode c_M_premium 62 = .ok (.iload_n 1, 1) := by decide +kernel
theorem d_M_premium_63 : decode c_M_premium 63 = .ok (.iload_n 2, 1) := by decide +kernel
theorem d_M_premium_64 : decode c_M_premium 64 = .ok (.iastore, 1) := by decide +kernel
theorem d_M_premium_65 : decode c_M_premium 65 = .ok (.return_, 1) := by decide +kernel
theorem d_M_share_0 : decode c_M_share 0 = .ok (.aload_n 0, 1) := by decide +kernel
theorem d_M_share_1 : decode c_M_share 1 = .ok (.iload_n 1, 1) := by decide +kernel
theorem d_M_share_2 : decode c_M_share 2 = .ok (.invokevirtual 127, 3) := by decide +kernel
theorem d_M_share_5 : decode c_M_share 5 = .ok (.ifCond .eq 27, 3) := by decide +kernel
theorem d_M_share_8 : decode c_M_share 8 = .ok (.iload_n 2, 1) := by decide +kernel
theorem d_M_share_9 : decode c_M_share 9 = .ok (.i2l, 1) := by decide +kernel
theorem d_M_share_10 : decode c_M_share 10 = .ok (.lconst 0, 1) := by decide +kernel
theorem d_M_share_11 : decode c_M_share 11 = .ok (.ldc2_w 119, 3) := by decide +kernel
theorem d_M_share_14 : decode c_M_share 14 = .ok (.invokestatic 93, 3) := by decide +kernel
theorem d_M_share_17 : decode c_M_share 17 = .ok (.ifCond .eq 15, 3) := by decide +kernel
theorem d_M_share_20 : decode c_M_share 20 = .ok (.iload_n 3, 1) := by decide +kernel
theorem d_M_share_21 : decode c_M_share 21 = .ok (.i2l, 1) := by decide +kernel
theorem d_M_share_22 : decode c_M_share 22 = .ok (.lconst 0, 1) := by decide +kernel
theorem d_M_share_23 : decode c_M_share 23 = .ok (.ldc2_w 115, 3) := by decide +kernel
theorem d_M_share_26 : decode c_M_share 26 = .ok (.invokestatic 93, 3) := by decide +kernel
theorem d_M_share_29 : decode c_M_share 29 = .ok (.ifCond .ne 7, 3) := by decide +kernel
theorem d_M_share_32 : decode c_M_share 32 = .ok (.iconst 1, 1) := by decide +kernel
theorem d_M_share_33 : decode c_M_share 33 = .ok (.goto 4, 3) := by decide +kernel
theorem d_M_share_36 : decode c_M_share 36 = .ok (.iconst 0, 1) := by decide +kernel
theorem d_M_share_37 : decode c_M_share 37 = .ok (.istore 4, 2) := by decide +kernel
theorem d_M_share_39 : decode c_M_share 39 = .ok (.iload_n 3, 1) := by decide +kernel
theorem d_M_share_40 : decode c_M_share 40 = .ok (.i2l, 1) := by decide +kernel
theorem d_M_share_41 : decode c_M_share 41 = .ok (.lstore 5, 2) := by decide +kernel
theorem d_M_share_43 : decode c_M_share 43 = .ok (.iconst 0, 1) := by decide +kernel
theorem d_M_share_44 : decode c_M_share 44 = .ok (.istore 7, 2) := by decide +kernel
theorem d_M_share_46 : decode c_M_share 46 = .ok (.iload 7, 2) := by decide +kernel
theorem d_M_share_48 : decode c_M_share 48 = .ok (.bipush 6, 2) := by decide +kernel
theorem d_M_share_50 : decode c_M_share 50 = .ok (.if_icmp .ge 42, 3) := by decide +kernel
theorem d_M_share_53 : decode c_M_share 53 = .ok (.iload 4, 2) := by decide +kernel
theorem d_M_share_55 : decode c_M_share 55 = .ok (.ifCond .ne 37, 3) := by decide +kernel
theorem d_M_share_58 : decode c_M_share 58 = .ok (.lload 5, 2) := by decide +kernel
theorem d_M_share_60 : decode c_M_share 60 = .ok (.iload 7, 2) := by decide +kernel
theorem d_M_share_62 : decode c_M_share 62 = .ok (.iload_n 2, 1) := by decide +kernel
theorem d_M_share_63 : decode c_M_share 63 = .ok (.if_icmp .ne 7, 3) := by decide +kernel
theorem d_M_share_66 : decode c_M_share 66 = .ok (.lconst 0, 1) := by decide +kernel
theorem d_M_share_67 : decode c_M_share 67 = .ok (.goto 16, 3) := by decide +kernel
theorem d_M_share_70 : decode c_M_share 70 = .ok (.aload_n 0, 1) := by decide +kernel
theorem d_M_share_71 : decode c_M_share 71 = .ok (.getfield 50, 3) := by decide +kernel
theorem d_M_share_74 : decode c_M_share 74 = .ok (.bipush 6, 2) := by decide +kernel
theorem d_M_share_76 : decode c_M_share 76 = .ok (.iload_n 1, 1) := by decide +kernel
theorem d_M_share_77 : decode c_M_share 77 = .ok (.imul, 1) := by decide +kernel
theorem d_M_share_78 : decode c_M_share 78 = .ok (.iload 7, 2) := by decide +kernel
theorem d_M_share_80 : decode c_M_share 80 = .ok (.iadd, 1) := by decide +kernel
theorem d_M_share_81 : decode c_M_share 81 = .ok (.iaload, 1) := by decide +kernel
theorem d_M_share_82 : decode c_M_share 82 = .ok (.i2l, 1) := by decide +kernel
theorem d_M_share_83 : decode c_M_share 83 = .ok (.ladd, 1) := by decide +kernel
theorem d_M_share_84 : decode c_M_share 84 = .ok (.lstore 5, 2) := by decide +kernel
theorem d_M_share_86 : decode c_M_share 86 = .ok (.iinc 7 1, 3) := by decide +kernel
theorem d_M_share_89 : decode c_M_share 89 = .ok (.goto (-43), 3) := by decide +kernel
theorem d_M_share_92 : decode c_M_share 92 = .ok (.aload_n 0, 1) := by decide +kernel
theorem d_M_share_93 : decode c_M_share 93 = .ok (.iload 4, 2) := by decide +kernel
theorem d_M_share_95 : decode c_M_share 95 = .ok (.iload 4, 2) := by decide +kernel
theorem d_M_share_97 : decode c_M_share 97 = .ok (.ifCond .ne 29, 3) := by decide +kernel
theorem d_M_share_100 : decode c_M_share 100 = .ok (.lload 5, 2) := by decide +kernel
theorem d_M_share_102 : decode c_M_share 102 = .ok (.ldc2_w 115, 3) := by decide +kernel
theorem d_M_share_105 : decode c_M_share 105 = .ok (.lcmp, 1) := by decide +kernel
theorem d_M_share_106 : decode c_M_share 106 = .ok (.ifCond .gt 16, 3) := by decide +kernel
theorem d_M_share_109 : decode c_M_share 109 = .ok (.aload_n 0, 1) := by decide +kernel
theorem d_M_share_110 : decode c_M_share 110 = .ok (.getfield 57, 3) := by decide +kernel
theorem d_M_share_113 : decode c_M_share 113 = .ok (.aload_n 0, 1) := by decide +kernel
theorem d_M_share_114 : decode c_M_share 114 = .ok (.iload_n 1, 1) := by decide +kernel
theorem d_M_share_115 : decode c_M_share 115 = .ok (.invokevirtual 130, 3) := by decide +kernel
theorem d_M_share_118 : decode c_M_share 118 = .ok (.baload, 1) := by decide +kernel
theorem d_M_share_119 : decode c_M_share 119 = .ok (.ifCond .eq 7, 3) := by decide +kernel
theorem d_M_share_122 : decode c_M_share 122 = .ok (.iconst 1, 1) := by decide +kernel
theorem d_M_share_123 : decode c_M_share 123 = .ok (.goto 4, 3) := by decide +kernel
theorem d_M_share_126 : decode c_M_share 126 = .ok (.iconst 0, 1) := by decide +kernel
theorem d_M_share_127 : decode c_M_share 127 = .ok (.invokevirtual 107, 3) := by decide +kernel
theorem d_M_share_130 : decode c_M_share 130 = .ok (.ifCond .eq 4, 3) := by decide +kernel
theorem d_M_share_133 : decode c_M_share 133 = .ok (.return_, 1) := by decide +kernel
theorem d_M_share_134 : decode c_M_share 134 = .ok (.aload_n 0, 1) := by decide +kernel
theorem d_M_share_135 : decode c_M_share 135 = .ok (.getfield 50, 3) := by decide +kernel
theorem d_M_share_138 : decode c_M_share 138 = .ok (.bipush 6, 2) := by decide +kernel
theorem d_M_share_140 : decode c_M_share 140 = .ok (.iload_n 1, 1) := by decide +kernel
theorem d_M_share_141 : decode c_M_share 141 = .ok (.imul, 1) := by decide +kernel
theorem d_M_share_142 : decode c_M_share 142 = .ok (.iload_n 2, 1) := by decide +kernel
theorem d_M_share_143 : decode c_M_share 143 = .ok (.iadd, 1) := by decide +kernel
theorem d_M_share_144 : decode c_M_share 144 = .ok (.iload_n 3, 1) := by decide +kernel
theorem d_M_share_145 : decode c_M_share 145 = .ok (.iastore, 1) := by decide +kernel
theorem d_M_share_146 : decode c_M_share 146 = .ok (.return_, 1) := by decide +kernel
theorem d_M_strike_0 : decode c_M_strike 0 = .ok (.aload_n 0, 1) := by decide +kernel
theorem d_M_strike_1 : decode c_M_strike 1 = .ok (.iload_n 1, 1) := by decide +kernel
theorem d_M_strike_2 : decode c_M_strike 2 = .ok (.invokevirtual 138, 3) := by decide +kernel
theorem d_M_strike_5 : decode c_M_strike 5 = .ok (.ifCond .ne 7, 3) := by decide +kernel
theorem d_M_strike_8 : decode c_M_strike 8 = .ok (.iconst 1, 1) := by decide +kernel
theorem d_M_strike_9 : decode c_M_strike 9 = .ok (.goto 4, 3) := by decide +kernel
theorem d_M_strike_12 : decode c_M_strike 12 = .ok (.iconst 0, 1) := by decide +kernel
theorem d_M_strike_13 : decode c_M_strike 13 = .ok (.istore_n 2, 1) := by decide +kernel
theorem d_M_strike_14 : decode c_M_strike 14 = .ok (.aload_n 0, 1) := by decide +kernel
theorem d_M_strike_15 : decode c_M_strike 15 = .ok (.iload_n 2, 1) := by decide +kernel
theorem d_M_strike_16 : decode c_M_strike 16 = .ok (.iload_n 2, 1) := by decide +kernel
theorem d_M_strike_17 : decode c_M_strike 17 = .ok (.ifCond .ne 29, 3) := by decide +kernel
theorem d_M_strike_20 : decode c_M_strike 20 = .ok (.aload_n 0, 1) := by decide +kernel
theorem d_M_strike_21 : decode c_M_strike 21 = .ok (.getfield 31, 3) := by decide +kernel
theorem d_M_strike_24 : decode c_M_strike 24 = .ok (.iload_n 1, 1) := by decide +kernel
theorem d_M_strike_25 : decode c_M_strike 25 = .ok (.baload, 1) := by decide +kernel
theorem d_M_strike_26 : decode c_M_strike 26 = .ok (.ifCond .ne 16, 3) := by decide +kernel
theorem d_M_strike_29 : decode c_M_strike 29 = .ok (.aload_n 0, 1) := by decide +kernel
theorem d_M_strike_30 : decode c_M_strike 30 = .ok (.getfield 57, 3) := by decide +kernel
theorem d_M_strike_33 : decode c_M_strike 33 = .ok (.aload_n 0, 1) := by decide +kernel
theorem d_M_strike_34 : decode c_M_strike 34 = .ok (.iload_n 1, 1) := by decide +kernel
theorem d_M_strike_35 : decode c_M_strike 35 = .ok (.invokevirtual 141, 3) := by decide +kernel
theorem d_M_strike_38 : decode c_M_strike 38 = .ok (.baload, 1) := by decide +kernel
theorem d_M_strike_39 : decode c_M_strike 39 = .ok (.ifCond .eq 7, 3) := by decide +kernel
theorem d_M_strike_42 : decode c_M_strike 42 = .ok (.iconst 1, 1) := by decide +kernel
theorem d_M_strike_43 : decode c_M_strike 43 = .ok (.goto 4, 3) := by decide +kernel
theorem d_M_strike_46 : decode c_M_strike 46 = .ok (.iconst 0, 1) := by decide +kernel
theorem d_M_strike_47 : decode c_M_strike 47 = .ok (.invokevirtual 107, 3) := by decide +kernel
theorem d_M_strike_50 : decode c_M_strike 50 = .ok (.ifCond .eq 4, 3) := by decide +kernel
theorem d_M_strike_53 : decode c_M_strike 53 = .ok (.return_, 1) := by decide +kernel
theorem d_M_strike_54 : decode c_M_strike 54 = .ok (.aload_n 0, 1) := by decide +kernel
theorem d_M_strike_55 : decode c_M_strike 55 = .ok (.getfield 31, 3) := by decide +kernel
theorem d_M_strike_58 : decode c_M_strike 58 = .ok (.iload_n 1, 1) := by decide +kernel
theorem d_M_strike_59 : decode c_M_strike 59 = .ok (.iconst 1, 1) := by decide +kernel
theorem d_M_strike_60 : decode c_M_strike 60 = .ok (.bastore, 1) := by decide +kernel
theorem d_M_strike_61 : decode c_M_strike 61 = .ok (.return_, 1) := by decide +kernel
theorem d_M_treaty_0 : decode c_M_treaty 0 = .ok (.iload_n 1, 1) := by decide +kernel
theorem d_M_treaty_1 : decode c_M_treaty 1 = .ok (.i2l, 1) := by decide +kernel
theorem d_M_treaty_2 : decode c_M_treaty 2 = .ok (.lconst 0, 1) := by decide +kernel
theorem d_M_treaty_3 : decode c_M_treaty 3 = .ok (.ldc2_w 121, 3) := by decide +kernel
theorem d_M_treaty_6 : decode c_M_treaty 6 = .ok (.invokestatic 93, 3) := by decide +kernel
theorem d_M_treaty_9 : decode c_M_treaty 9 = .ok (.ifCond .eq 27, 3) := by decide +kernel
theorem d_M_treaty_12 : decode c_M_treaty 12 = .ok (.iload_n 1, 1) := by decide +kernel
theorem d_M_treaty_13 : decode c_M_treaty 13 = .ok (.bipush 10, 2) := by decide +kernel
theorem d_M_treaty_15 : decode c_M_treaty 15 = .ok (.irem, 1) := by decide +kernel
theorem d_M_treaty_16 : decode c_M_treaty 16 = .ok (.iconst 3, 1) := by decide +kernel
theorem d_M_treaty_17 : decode c_M_treaty 17 = .ok (.if_icmp .gt 19, 3) := by decide +kernel
theorem d_M_treaty_20 : decode c_M_treaty 20 = .ok (.iload_n 1, 1) := by decide +kernel
theorem d_M_treaty_21 : decode c_M_treaty 21 = .ok (.bipush 10, 2) := by decide +kernel
theorem d_M_treaty_23 : decode c_M_treaty 23 = .ok (.idiv, 1) := by decide +kernel
theorem d_M_treaty_24 : decode c_M_treaty 24 = .ok (.iload_n 2, 1) := by decide +kernel
theorem d_M_treaty_25 : decode c_M_treaty 25 = .ok (.iload_n 3, 1) := by decide +kernel
theorem d_M_treaty_26 : decode c_M_treaty 26 = .ok (.iload 4, 2) := by decide +kernel
theorem d_M_treaty_28 : decode c_M_treaty 28 = .ok (.iload 5, 2) := by decide +kernel
theorem d_M_treaty_30 : decode c_M_treaty 30 = .ok (.invokestatic 123, 3) := by decide +kernel
theorem d_M_treaty_33 : decode c_M_treaty 33 = .ok (.ifCond .ne 7, 3) := by decide +kernel
theorem d_M_treaty_36 : decode c_M_treaty 36 = .ok (.iconst 1, 1) := by decide +kernel
theorem d_M_treaty_37 : decode c_M_treaty 37 = .ok (.goto 4, 3) := by decide +kernel
theorem d_M_treaty_40 : decode c_M_treaty 40 = .ok (.iconst 0, 1) := by decide +kernel
theorem d_M_treaty_41 : decode c_M_treaty 41 = .ok (.istore 6, 2) := by decide +kernel
theorem d_M_treaty_43 : decode c_M_treaty 43 = .ok (.aload_n 0, 1) := by decide +kernel
theorem d_M_treaty_44 : decode c_M_treaty 44 = .ok (.iload 6, 2) := by decide +kernel
theorem d_M_treaty_46 : decode c_M_treaty 46 = .ok (.iload 6, 2) := by decide +kernel
theorem d_M_treaty_48 : decode c_M_treaty 48 = .ok (.ifCond .ne 28, 3) := by decide +kernel
theorem d_M_treaty_51 : decode c_M_treaty 51 = .ok (.aload_n 0, 1) := by decide +kernel
theorem d_M_treaty_52 : decode c_M_treaty 52 = .ok (.getfield 100, 3) := by decide +kernel
theorem d_M_treaty_55 : decode c_M_treaty 55 = .ok (.bipush 10, 2) := by decide +kernel
theorem d_M_treaty_57 : decode c_M_treaty 57 = .ok (.if_icmp .eq 15, 3) := by decide +kernel
theorem d_M_treaty_60 : decode c_M_treaty 60 = .ok (.aload_n 0, 1) := by decide +kernel
theorem d_M_treaty_61 : decode c_M_treaty 61 = .ok (.getfield 57, 3) := by decide +kernel
theorem d_M_treaty_64 : decode c_M_treaty 64 = .ok (.iload_n 1, 1) := by decide +kernel
theorem d_M_treaty_65 : decode c_M_treaty 65 = .ok (.bipush 10, 2) := by decide +kernel
theorem d_M_treaty_67 : decode c_M_treaty 67 = .ok (.irem, 1) := by decide +kernel
theorem d_M_treaty_68 : decode c_M_treaty 68 = .ok (.baload, 1) := by decide +kernel
theorem d_M_treaty_69 : decode c_M_treaty 69 = .ok (.ifCond .eq 7, 3) := by decide +kernel
theorem d_M_treaty_72 : decode c_M_treaty 72 = .ok (.iconst 1, 1) := by decide +kernel
theorem d_M_treaty_73 : decode c_M_treaty 73 = .ok (.goto 4, 3) := by decide +kernel
theorem d_M_treaty_76 : decode c_M_treaty 76 = .ok (.iconst 0, 1) := by decide +kernel
theorem d_M_treaty_77 : decode c_M_treaty 77 = .ok (.invokevirtual 107, 3) := by decide +kernel
theorem d_M_treaty_80 : decode c_M_treaty 80 = .ok (.ifCond .eq 5, 3) := by decide +kernel
theorem d_M_treaty_83 : decode c_M_treaty 83 = .ok (.iconst 0, 1) := by decide +kernel
theorem d_M_treaty_84 : decode c_M_treaty 84 = .ok (.ireturn, 1) := by decide +kernel
theorem d_M_treaty_85 : decode c_M_treaty 85 = .ok (.aload_n 0, 1) := by decide +kernel
theorem d_M_treaty_86 : decode c_M_treaty 86 = .ok (.getfield 35, 3) := by decide +kernel
theorem d_M_treaty_89 : decode c_M_treaty 89 = .ok (.aload_n 0, 1) := by decide +kernel
theorem d_M_treaty_90 : decode c_M_treaty 90 = .ok (.getfield 100, 3) := by decide +kernel
theorem d_M_treaty_93 : decode c_M_treaty 93 = .ok (.iload_n 1, 1) := by decide +kernel
theorem d_M_treaty_94 : decode c_M_treaty 94 = .ok (.iastore, 1) := by decide +kernel
theorem d_M_treaty_95 : decode c_M_treaty 95 = .ok (.aload_n 0, 1) := by decide +kernel
theorem d_M_treaty_96 : decode c_M_treaty 96 = .ok (.getfield 38, 3) := by decide +kernel
theorem d_M_treaty_99 : decode c_M_treaty 99 = .ok (.aload_n 0, 1) := by decide +kernel
theorem d_M_treaty_100 : decode c_M_treaty 100 = .ok (.getfield 100, 3) := by decide +kernel
theorem d_M_treaty_103 : decode c_M_treaty 103 = .ok (.iload_n 2, 1) := by decide +kernel
theorem d_M_treaty_104 : decode c_M_treaty 104 = .ok (.iastore, 1) := by decide +kernel
theorem d_M_treaty_105 : decode c_M_treaty 105 = .ok (.aload_n 0, 1) := by decide +kernel
theorem d_M_treaty_106 : decode c_M_treaty 106 = .ok (.getfield 41, 3) := by decide +kernel
theorem d_M_treaty_109 : decode c_M_treaty 109 = .ok (.aload_n 0, 1) := by decide +kernel
theorem d_M_treaty_110 : decode c_M_treaty 110 = .ok (.getfield 100, 3) := by decide +kernel
theorem d_M_treaty_113 : decode c_M_treaty 113 = .ok (.iload_n 3, 1) := by decide +kernel
theorem d_M_treaty_114 : decode c_M_treaty 114 = .ok (.iastore, 1) := by decide +kernel
theorem d_M_treaty_115 : decode c_M_treaty 115 = .ok (.aload_n 0, 1) := by decide +kernel
theorem d_M_treaty_116 : decode c_M_treaty 116 = .ok (.getfield 44, 3) := by decide +kernel
theorem d_M_treaty_119 : decode c_M_treaty 119 = .ok (.aload_n 0, 1) := by decide +kernel
theorem d_M_treaty_120 : decode c_M_treaty 120 = .ok (.getfield 100, 3) := by decide +kernel
theorem d_M_treaty_123 : decode c_M_treaty 123 = .ok (.iload 4, 2) := by decide +kernel
theorem d_M_treaty_125 : decode c_M_treaty 125 = .ok (.iastore, 1) := by decide +kernel
theorem d_M_treaty_126 : decode c_M_treaty 126 = .ok (.aload_n 0, 1) := by decide +kernel
theorem d_M_treaty_127 : decode c_M_treaty 127 = .ok (.getfield 47, 3) := by decide +kernel
theorem d_M_treaty_130 : decode c_M_treaty 130 = .ok (.aload_n 0, 1) := by decide +kernel
theorem d_M_treaty_131 : decode c_M_treaty 131 = .ok (.getfield 100, 3) := by decide +kernel
theorem d_M_treaty_134 : decode c_M_treaty 134 = .ok (.iload 5, 2) := by decide +kernel
theorem d_M_treaty_136 : decode c_M_treaty 136 = .ok (.iastore, 1) := by decide +kernel
theorem d_M_treaty_137 : decode c_M_treaty 137 = .ok (.aload_n 0, 1) := by decide +kernel
theorem d_M_treaty_138 : decode c_M_treaty 138 = .ok (.dup, 1) := by decide +kernel
theorem d_M_treaty_139 : decode c_M_treaty 139 = .ok (.getfield 100, 3) := by decide +kernel
theorem d_M_treaty_142 : decode c_M_treaty 142 = .ok (.iconst 1, 1) := by decide +kernel
theorem d_M_treaty_143 : decode c_M_treaty 143 = .ok (.iadd, 1) := by decide +kernel
theorem d_M_treaty_144 : decode c_M_treaty 144 = .ok (.putfield 100, 3) := by decide +kernel
theorem d_M_treaty_147 : decode c_M_treaty 147 = .ok (.aload_n 0, 1) := by decide +kernel
theorem d_M_treaty_148 : decode c_M_treaty 148 = .ok (.getfield 100, 3) := by decide +kernel
theorem d_M_treaty_151 : decode c_M_treaty 151 = .ok (.iconst 1, 1) := by decide +kernel
theorem d_M_treaty_152 : decode c_M_treaty 152 = .ok (.isub, 1) := by decide +kernel
theorem d_M_treaty_153 : decode c_M_treaty 153 = .ok (.ireturn, 1) := by decide +kernel
theorem d_M_excessOfEvents_0 : decode c_M_excessOfEvents 0 = .ok (.iconst 1, 1) := by decide +kernel
theorem d_M_excessOfEvents_1 : decode c_M_excessOfEvents 1 = .ok (.istore_n 2, 1) := by decide +kernel
theorem d_M_excessOfEvents_2 : decode c_M_excessOfEvents 2 = .ok (.iload_n 2, 1) := by decide +kernel
theorem d_M_excessOfEvents_3 : decode c_M_excessOfEvents 3 = .ok (.bipush 10, 2) := by decide +kernel
theorem d_M_excessOfEvents_5 : decode c_M_excessOfEvents 5 = .ok (.if_icmp .ge 268, 3) := by decide +kernel
theorem d_M_excessOfEvents_8 : decode c_M_excessOfEvents 8 = .ok (.iconst (-1), 1) := by decide +kernel
theorem d_M_excessOfEvents_9 : decode c_M_excessOfEvents 9 = .ok (.istore_n 3, 1) := by decide +kernel
theorem d_M_excessOfEvents_10 : decode c_M_excessOfEvents 10 = .ok (.iconst 0, 1) := by decide +kernel
theorem d_M_excessOfEvents_11 : decode c_M_excessOfEvents 11 = .ok (.istore 4, 2) := by decide +kernel
theorem d_M_excessOfEvents_13 : decode c_M_excessOfEvents 13 = .ok (.iload 4, 2) := by decide +kernel
theorem d_M_excessOfEvents_15 : decode c_M_excessOfEvents 15 = .ok (.aload_n 0, 1) := by decide +kernel
theorem d_M_excessOfEvents_16 : decode c_M_excessOfEvents 16 = .ok (.getfield 97, 3) := by decide +kernel
theorem d_M_excessOfEvents_19 : decode c_M_excessOfEvents 19 = .ok (.if_icmp .ge 114, 3) := by decide +kernel
theorem d_M_excessOfEvents_22 : decode c_M_excessOfEvents 22 = .ok (.aload_n 0, 1) := by decide +kernel
theorem d_M_excessOfEvents_23 : decode c_M_excessOfEvents 23 = .ok (.iload 4, 2) := by decide +kernel
theorem d_M_excessOfEvents_25 : decode c_M_excessOfEvents 25 = .ok (.aload_n 0, 1) := by decide +kernel
theorem d_M_excessOfEvents_26 : decode c_M_excessOfEvents 26 = .ok (.iload_n 1, 1) := by decide +kernel
theorem d_M_excessOfEvents_27 : decode c_M_excessOfEvents 27 = .ok (.invokevirtual 130, 3) := by decide +kernel
theorem d_M_excessOfEvents_30 : decode c_M_excessOfEvents 30 = .ok (.invokevirtual 160, 3) := by decide +kernel
theorem d_M_excessOfEvents_33 : decode c_M_excessOfEvents 33 = .ok (.ifCond .eq 94, 3) := by decide +kernel
theorem d_M_excessOfEvents_36 : decode c_M_excessOfEvents 36 = .ok (.aload_n 0, 1) := by decide +kernel
theorem d_M_excessOfEvents_37 : decode c_M_excessOfEvents 37 = .ok (.getfield 22, 3) := by decide +kernel
theorem d_M_excessOfEvents_40 : decode c_M_excessOfEvents 40 = .ok (.iload 4, 2) := by decide +kernel
theorem d_M_excessOfEvents_42 : decode c_M_excessOfEvents 42 = .ok (.iaload, 1) := by decide +kernel
theorem d_M_excessOfEvents_43 : decode c_M_excessOfEvents 43 = .ok (.iload_n 2, 1) := by decide +kernel
theorem d_M_excessOfEvents_44 : decode c_M_excessOfEvents 44 = .ok (.if_icmp .ne 83, 3) := by decide +kernel
theorem d_M_excessOfEvents_47 : decode c_M_excessOfEvents 47 = .ok (.aload_n 0, 1) := by decide +kernel
theorem d_M_excessOfEvents_48 : decode c_M_excessOfEvents 48 = .ok (.iload_n 1, 1) := by decide +kernel
theorem d_M_excessOfEvents_49 : decode c_M_excessOfEvents 49 = .ok (.iload_n 2, 1) := by decide +kernel
theorem d_M_excessOfEvents_50 : decode c_M_excessOfEvents 50 = .ok (.aload_n 0, 1) := by decide +kernel
theorem d_M_excessOfEvents_51 : decode c_M_excessOfEvents 51 = .ok (.getfield 25, 3) := by decide +kernel
theorem d_M_excessOfEvents_54 : decode c_M_excessOfEvents 54 = .ok (.iload 4, 2) := by decide +kernel
theorem d_M_excessOfEvents_56 : decode c_M_excessOfEvents 56 = .ok (.iaload, 1) := by decide +kernel
theorem d_M_excessOfEvents_57 : decode c_M_excessOfEvents 57 = .ok (.invokevirtual 172, 3) := by decide +kernel
theorem d_M_excessOfEvents_60 : decode c_M_excessOfEvents 60 = .ok (.lstore 5, 2) := by decide +kernel
theorem d_M_excessOfEvents_62 : decode c_M_excessOfEvents 62 = .ok (.iload_n 3, 1) := by decide +kernel
theorem d_M_excessOfEvents_63 : decode c_M_excessOfEvents 63 = .ok (.ifCond .lt 40, 3) := by decide +kernel
theorem d_M_excessOfEvents_66 : decode c_M_excessOfEvents 66 = .ok (.lload 5, 2) := by decide +kernel
theorem d_M_excessOfEvents_68 : decode c_M_excessOfEvents 68 = .ok (.aload_n 0, 1) := by decide +kernel
theorem d_M_excessOfEvents_69 : decode c_M_excessOfEvents 69 = .ok (.iload_n 1, 1) := by decide +kernel
theorem d_M_excessOfEvents_70 : decode c_M_excessOfEvents 70 = .ok (.iload_n 2, 1) := by decide +kernel
theorem d_M_excessOfEvents_71 : decode c_M_excessOfEvents 71 = .ok (.iload_n 3, 1) := by decide +kernel
theorem d_M_excessOfEvents_72 : decode c_M_excessOfEvents 72 = .ok (.invokevirtual 172, 3) := by decide +kernel
theorem d_M_excessOfEvents_75 : decode c_M_excessOfEvents 75 = .ok (.lcmp, 1) := by decide +kernel
theorem d_M_excessOfEvents_76 : decode c_M_excessOfEvents 76 = .ok (.ifCond .gt 27, 3) := by decide +kernel
theorem d_M_excessOfEvents_79 : decode c_M_excessOfEvents 79 = .ok (.lload 5, 2) := by decide +kernel
theorem d_M_excessOfEvents_81 : decode c_M_excessOfEvents 81 = .ok (.aload_n 0, 1) := by decide +kernel
theorem d_M_excessOfEvents_82 : decode c_M_excessOfEvents 82 = .ok (.iload_n 1, 1) := by decide +kernel
theorem d_M_excessOfEvents_83 : decode c_M_excessOfEvents 83 = .ok (.iload_n 2, 1) := by decide +kernel
theorem d_M_excessOfEvents_84 : decode c_M_excessOfEvents 84 = .ok (.iload_n 3, 1) := by decide +kernel
theorem d_M_excessOfEvents_85 : decode c_M_excessOfEvents 85 = .ok (.invokevirtual 172, 3) := by decide +kernel
theorem d_M_excessOfEvents_88 : decode c_M_excessOfEvents 88 = .ok (.lcmp, 1) := by decide +kernel
theorem d_M_excessOfEvents_89 : decode c_M_excessOfEvents 89 = .ok (.ifCond .ne 18, 3) := by decide +kernel
theorem d_M_excessOfEvents_92 : decode c_M_excessOfEvents 92 = .ok (.aload_n 0, 1) := by decide +kernel
theorem d_M_excessOfEvents_93 : decode c_M_excessOfEvents 93 = .ok (.getfield 25, 3) := by decide +kernel
theorem d_M_excessOfEvents_96 : decode c_M_excessOfEvents 96 = .ok (.iload 4, 2) := by decide +kernel
theorem d_M_excessOfEvents_98 : decode c_M_excessOfEvents 98 = .ok (.iaload, 1) := by decide +kernel
theorem d_M_excessOfEvents_99 : decode c_M_excessOfEvents 99 = .ok (.iload_n 3, 1) := by decide +kernel
theorem d_M_excessOfEvents_100 : decode c_M_excessOfEvents 100 = .ok (.if_icmp .ge 7, 3) := by decide +kernel
theorem d_M_excessOfEvents_103 : decode c_M_excessOfEvents 103 = .ok (.iconst 1, 1) := by decide +kernel
theorem d_M_excessOfEvents_104 : decode c_M_excessOfEvents 104 = .ok (.goto 4, 3) := by decide +kernel
theorem d_M_excessOfEvents_107 : decode c_M_excessOfEvents 107 = .ok (.iconst 0, 1) := by decide +kernel
theorem d_M_excessOfEvents_108 : decode c_M_excessOfEvents 108 = .ok (.istore 7, 2) := by decide +kernel
theorem d_M_excessOfEvents_110 : decode c_M_excessOfEvents 110 = .ok (.iload 7, 2) := by decide +kernel
theorem d_M_excessOfEvents_112 : decode c_M_excessOfEvents 112 = .ok (.ifCond .eq 13, 3) := by decide +kernel
theorem d_M_excessOfEvents_115 : decode c_M_excessOfEvents 115 = .ok (.aload_n 0, 1) := by decide +kernel
theorem d_M_excessOfEvents_116 : decode c_M_excessOfEvents 116 = .ok (.getfield 25, 3) := by decide +kernel
theorem d_M_excessOfEvents_119 : decode c_M_excessOfEvents 119 = .ok (.iload 4, 2) := by decide +kernel
theorem d_M_excessOfEvents_121 : decode c_M_excessOfEvents 121 = .ok (.iaload, 1) := by decide +kernel
theorem d_M_excessOfEvents_122 : decode c_M_excessOfEvents 122 = .ok (.goto 4, 3) := by decide +kernel
theorem d_M_excessOfEvents_125 : decode c_M_excessOfEvents 125 = .ok (.iload_n 3, 1) := by decide +kernel
theorem d_M_excessOfEvents_126 : decode c_M_excessOfEvents 126 = .ok (.istore_n 3, 1) := by decide +kernel
theorem d_M_excessOfEvents_127 : decode c_M_excessOfEvents 127 = .ok (.iinc 4 1, 3) := by decide +kernel
theorem d_M_excessOfEvents_130 : decode c_M_excessOfEvents 130 = .ok (.goto (-117), 3) := by decide +kernel
theorem d_M_excessOfEvents_133 : decode c_M_excessOfEvents 133 = .ok (.aload_n 0, 1) := by decide +kernel
theorem d_M_excessOfEvents_134 : decode c_M_excessOfEvents 134 = .ok (.getfield 72, 3) := by decide +kernel
theorem d_M_excessOfEvents_137 : decode c_M_excessOfEvents 137 = .ok (.bipush 10, 2) := by decide +kernel
theorem d_M_excessOfEvents_139 : decode c_M_excessOfEvents 139 = .ok (.iload_n 1, 1) := by decide +kernel
theorem d_M_excessOfEvents_140 : decode c_M_excessOfEvents 140 = .ok (.imul, 1) := by decide +kernel
theorem d_M_excessOfEvents_141 : decode c_M_excessOfEvents 141 = .ok (.iload_n 2, 1) := by decide +kernel
theorem d_M_excessOfEvents_142 : decode c_M_excessOfEvents 142 = .ok (.iadd, 1) := by decide +kernel
theorem d_M_excessOfEvents_143 : decode c_M_excessOfEvents 143 = .ok (.iload_n 3, 1) := by decide +kernel
theorem d_M_excessOfEvents_144 : decode c_M_excessOfEvents 144 = .ok (.iastore, 1) := by decide +kernel
theorem d_M_excessOfEvents_145 : decode c_M_excessOfEvents 145 = .ok (.iload_n 3, 1) := by decide +kernel
theorem d_M_excessOfEvents_146 : decode c_M_excessOfEvents 146 = .ok (.ifCond .lt 121, 3) := by decide +kernel
theorem d_M_excessOfEvents_149 : decode c_M_excessOfEvents 149 = .ok (.aload_n 0, 1) := by decide +kernel
theorem d_M_excessOfEvents_150 : decode c_M_excessOfEvents 150 = .ok (.iload_n 1, 1) := by decide +kernel
theorem d_M_excessOfEvents_151 : decode c_M_excessOfEvents 151 = .ok (.iload_n 2, 1) := by decide +kernel
theorem d_M_excessOfEvents_152 : decode c_M_excessOfEvents 152 = .ok (.iload_n 3, 1) := by decide +kernel
theorem d_M_excessOfEvents_153 : decode c_M_excessOfEvents 153 = .ok (.invokevirtual 172, 3) := by decide +kernel
theorem d_M_excessOfEvents_156 : decode c_M_excessOfEvents 156 = .ok (.lstore 4, 2) := by decide +kernel
theorem d_M_excessOfEvents_158 : decode c_M_excessOfEvents 158 = .ok (.iconst 0, 1) := by decide +kernel
theorem d_M_excessOfEvents_159 : decode c_M_excessOfEvents 159 = .ok (.istore 6, 2) := by decide +kernel
theorem d_M_excessOfEvents_161 : decode c_M_excessOfEvents 161 = .ok (.iload 6, 2) := by decide +kernel
theorem d_M_excessOfEvents_163 : decode c_M_excessOfEvents 163 = .ok (.aload_n 0, 1) := by decide +kernel
theorem d_M_excessOfEvents_164 : decode c_M_excessOfEvents 164 = .ok (.getfield 97, 3) := by decide +kernel
theorem d_M_excessOfEvents_167 : decode c_M_excessOfEvents 167 = .ok (.if_icmp .ge 69, 3) := by decide +kernel
theorem d_M_excessOfEvents_170 : decode c_M_excessOfEvents 170 = .ok (.aload_n 0, 1) := by decide +kernel
theorem d_M_excessOfEvents_171 : decode c_M_excessOfEvents 171 = .ok (.getfield 78, 3) := by decide +kernel
theorem d_M_excessOfEvents_174 : decode c_M_excessOfEvents 174 = .ok (.iload 6, 2) := by decide +kernel
theorem d_M_excessOfEvents_176 : decode c_M_excessOfEvents 176 = .ok (.aload_n 0, 1) := by decide +kernel
theorem d_M_excessOfEvents_177 : decode c_M_excessOfEvents 177 = .ok (.iload 6, 2) := by decide +kernel
theorem d_M_excessOfEvents_179 : decode c_M_excessOfEvents 179 = .ok (.aload_n 0, 1) := by decide +kernel
theorem d_M_excessOfEvents_180 : decode c_M_excessOfEvents 180 = .ok (.iload_n 1, 1) := by decide +kernel
theorem d_M_excessOfEvents_181 : decode c_M_excessOfEvents 181 = .ok (.invokevirtual 130, 3) := by decide +kernel
theorem d_M_excessOfEvents_184 : decode c_M_excessOfEvents 184 = .ok (.invokevirtual 160, 3) := by decide +kernel
theorem d_M_excessOfEvents_187 : decode c_M_excessOfEvents 187 = .ok (.ifCond .eq 41, 3) := by decide +kernel
theorem d_M_excessOfEvents_190 : decode c_M_excessOfEvents 190 = .ok (.aload_n 0, 1) := by decide +kernel
theorem d_M_excessOfEvents_191 : decode c_M_excessOfEvents 191 = .ok (.getfield 22, 3) := by decide +kernel
theorem d_M_excessOfEvents_194 : decode c_M_excessOfEvents 194 = .ok (.iload 6, 2) := by decide +kernel
theorem d_M_excessOfEvents_196 : decode c_M_excessOfEvents 196 = .ok (.iaload, 1) := by decide +kernel
theorem d_M_excessOfEvents_197 : decode c_M_excessOfEvents 197 = .ok (.iload_n 2, 1) := by decide +kernel
theorem d_M_excessOfEvents_198 : decode c_M_excessOfEvents 198 = .ok (.if_icmp .ne 30, 3) := by decide +kernel
theorem d_M_excessOfEvents_201 : decode c_M_excessOfEvents 201 = .ok (.aload_n 0, 1) := by decide +kernel
theorem d_M_excessOfEvents_202 : decode c_M_excessOfEvents 202 = .ok (.getfield 25, 3) := by decide +kernel
theorem d_M_excessOfEvents_205 : decode c_M_excessOfEvents 205 = .ok (.iload 6, 2) := by decide +kernel
theorem d_M_excessOfEvents_207 : decode c_M_excessOfEvents 207 = .ok (.iaload, 1) := by decide +kernel
theorem d_M_excessOfEvents_208 : decode c_M_excessOfEvents 208 = .ok (.i2l, 1) := by decide +kernel
theorem d_M_excessOfEvents_209 : decode c_M_excessOfEvents 209 = .ok (.iload_n 3, 1) := by decide +kernel
theorem d_M_excessOfEvents_210 : decode c_M_excessOfEvents 210 = .ok (.i2l, 1) := by decide +kernel
theorem d_M_excessOfEvents_211 : decode c_M_excessOfEvents 211 = .ok (.iload_n 3, 1) := by decide +kernel
theorem d_M_excessOfEvents_212 : decode c_M_excessOfEvents 212 = .ok (.bipush 72, 2) := by decide +kernel
theorem d_M_excessOfEvents_214 : decode c_M_excessOfEvents 214 = .ok (.iadd, 1) := by decide +kernel
theorem d_M_excessOfEvents_215 : decode c_M_excessOfEvents 215 = .ok (.iconst 1, 1) := by decide +kernel
theorem d_M_excessOfEvents_216 : decode c_M_excessOfEvents 216 = .ok (.isub, 1) := by decide +kernel
theorem d_M_excessOfEvents_217 : decode c_M_excessOfEvents 217 = .ok (.i2l, 1) := by decide +kernel
theorem d_M_excessOfEvents_218 : decode c_M_excessOfEvents 218 = .ok (.invokestatic 93, 3) := by decide +kernel
theorem d_M_excessOfEvents_221 : decode c_M_excessOfEvents 221 = .ok (.ifCond .eq 7, 3) := by decide +kernel
theorem d_M_excessOfEvents_224 : decode c_M_excessOfEvents 224 = .ok (.iconst 1, 1) := by decide +kernel
theorem d_M_excessOfEvents_225 : decode c_M_excessOfEvents 225 = .ok (.goto 4, 3) := by decide +kernel
theorem d_M_excessOfEvents_228 : decode c_M_excessOfEvents 228 = .ok (.iconst 0, 1) := by decide +kernel
theorem d_M_excessOfEvents_229 : decode c_M_excessOfEvents 229 = .ok (.bastore, 1) := by decide +kernel
theorem d_M_excessOfEvents_230 : decode c_M_excessOfEvents 230 = .ok (.iinc 6 1, 3) := by decide +kernel
theorem d_M_excessOfEvents_233 : decode c_M_excessOfEvents 233 = .ok (.goto (-72), 3) := by decide +kernel
theorem d_M_excessOfEvents_236 : decode c_M_excessOfEvents 236 = .ok (.aload_n 0, 1) := by decide +kernel
theorem d_M_excessOfEvents_237 : decode c_M_excessOfEvents 237 = .ok (.iload_n 1, 1) := by decide +kernel
theorem d_M_excessOfEvents_238 : decode c_M_excessOfEvents 238 = .ok (.aload_n 0, 1) := by decide +kernel
theorem d_M_excessOfEvents_239 : decode c_M_excessOfEvents 239 = .ok (.iload_n 1, 1) := by decide +kernel
theorem d_M_excessOfEvents_240 : decode c_M_excessOfEvents 240 = .ok (.lload 4, 2) := by decide +kernel
theorem d_M_excessOfEvents_242 : decode c_M_excessOfEvents 242 = .ok (.aload_n 0, 1) := by decide +kernel
theorem d_M_excessOfEvents_243 : decode c_M_excessOfEvents 243 = .ok (.getfield 38, 3) := by decide +kernel
theorem d_M_excessOfEvents_246 : decode c_M_excessOfEvents 246 = .ok (.iload_n 1, 1) := by decide +kernel
theorem d_M_excessOfEvents_247 : decode c_M_excessOfEvents 247 = .ok (.iaload, 1) := by decide +kernel
theorem d_M_excessOfEvents_248 : decode c_M_excessOfEvents 248 = .ok (.i2l, 1) := by decide +kernel
theorem d_M_excessOfEvents_249 : decode c_M_excessOfEvents 249 = .ok (.aload_n 0, 1) := by decide +kernel
theorem d_M_excessOfEvents_250 : decode c_M_excessOfEvents 250 = .ok (.getfield 41, 3) := by decide +kernel
theorem d_M_excessOfEvents_253 : decode c_M_excessOfEvents 253 = .ok (.iload_n 1, 1) := by decide +kernel
theorem d_M_excessOfEvents_254 : decode c_M_excessOfEvents 254 = .ok (.iaload, 1) := by decide +kernel
theorem d_M_excessOfEvents_255 : decode c_M_excessOfEvents 255 = .ok (.i2l, 1) := by decide +kernel
theorem d_M_excessOfEvents_256 : decode c_M_excessOfEvents 256 = .ok (.invokestatic 164, 3) := by decide +kernel
theorem d_M_excessOfEvents_259 : decode c_M_excessOfEvents 259 = .ok (.invokevirtual 168, 3) := by decide +kernel
theorem d_M_excessOfEvents_262 : decode c_M_excessOfEvents 262 = .ok (.lload 4, 2) := by decide +kernel
theorem d_M_excessOfEvents_264 : decode c_M_excessOfEvents 264 = .ok (.invokevirtual 176, 3) := by decide +kernel
theorem d_M_excessOfEvents_267 : decode c_M_excessOfEvents 267 = .ok (.iinc 2 1, 3) := by decide +kernel
theorem d_M_excessOfEvents_270 : decode c_M_excessOfEvents 270 = .ok (.goto (-268), 3) := by decide +kernel
theorem d_M_excessOfEvents_273 : decode c_M_excessOfEvents 273 = .ok (.return_, 1) := by decide +kernel
theorem d_M_apply_0 : decode c_M_apply 0 = .ok (.aload_n 0, 1) := by decide +kernel
theorem d_M_apply_1 : decode c_M_apply 1 = .ok (.lconst 0, 1) := by decide +kernel
theorem d_M_apply_2 : decode c_M_apply 2 = .ok (.putfield 147, 3) := by decide +kernel
theorem d_M_apply_5 : decode c_M_apply 5 = .ok (.aload_n 0, 1) := by decide +kernel
theorem d_M_apply_6 : decode c_M_apply 6 = .ok (.lconst 0, 1) := by decide +kernel
theorem d_M_apply_7 : decode c_M_apply 7 = .ok (.putfield 151, 3) := by decide +kernel
theorem d_M_apply_10 : decode c_M_apply 10 = .ok (.aload_n 0, 1) := by decide +kernel
theorem d_M_apply_11 : decode c_M_apply 11 = .ok (.iload_n 1, 1) := by decide +kernel
theorem d_M_apply_12 : decode c_M_apply 12 = .ok (.invokevirtual 130, 3) := by decide +kernel
theorem d_M_apply_15 : decode c_M_apply 15 = .ok (.istore_n 2, 1) := by decide +kernel
theorem d_M_apply_16 : decode c_M_apply 16 = .ok (.aload_n 0, 1) := by decide +kernel
theorem d_M_apply_17 : decode c_M_apply 17 = .ok (.iload_n 1, 1) := by decide +kernel
theorem d_M_apply_18 : decode c_M_apply 18 = .ok (.invokevirtual 144, 3) := by decide +kernel
theorem d_M_apply_21 : decode c_M_apply 21 = .ok (.iconst 2, 1) := by decide +kernel
theorem d_M_apply_22 : decode c_M_apply 22 = .ok (.if_icmp .ge 133, 3) := by decide +kernel
theorem d_M_apply_25 : decode c_M_apply 25 = .ok (.iconst 0, 1) := by decide +kernel
theorem d_M_apply_26 : decode c_M_apply 26 = .ok (.istore_n 3, 1) := by decide +kernel
theorem d_M_apply_27 : decode c_M_apply 27 = .ok (.iload_n 3, 1) := by decide +kernel
theorem d_M_apply_28 : decode c_M_apply 28 = .ok (.aload_n 0, 1) := by decide +kernel
theorem d_M_apply_29 : decode c_M_apply 29 = .ok (.getfield 97, 3) := by decide +kernel
theorem d_M_apply_32 : decode c_M_apply 32 = .ok (.if_icmp .ge 46, 3) := by decide +kernel
theorem d_M_apply_35 : decode c_M_apply 35 = .ok (.aload_n 0, 1) := by decide +kernel
theorem d_M_apply_36 : decode c_M_apply 36 = .ok (.iload_n 3, 1) := by decide +kernel
theorem d_M_apply_37 : decode c_M_apply 37 = .ok (.iload_n 2, 1) := by decide +kernel
theorem d_M_apply_38 : decode c_M_apply 38 = .ok (.invokevirtual 160, 3) := by decide +kernel
theorem d_M_apply_41 : decode c_M_apply 41 = .ok (.ifCond .eq 31, 3) := by decide +kernel
theorem d_M_apply_44 : decode c_M_apply 44 = .ok (.aload_n 0, 1) := by decide +kernel
theorem d_M_apply_45 : decode c_M_apply 45 = .ok (.iload_n 1, 1) := by decide +kernel
theorem d_M_apply_46 : decode c_M_apply 46 = .ok (.iload_n 3, 1) := by decide +kernel
theorem d_M_apply_47 : decode c_M_apply 47 = .ok (.aload_n 0, 1) := by decide +kernel
theorem d_M_apply_48 : decode c_M_apply 48 = .ok (.getfield 60, 3) := by decide +kernel
theorem d_M_apply_51 : decode c_M_apply 51 = .ok (.iload_n 3, 1) := by decide +kernel
theorem d_M_apply_52 : decode c_M_apply 52 = .ok (.laload, 1) := by decide +kernel
theorem d_M_apply_53 : decode c_M_apply 53 = .ok (.aload_n 0, 1) := by decide +kernel
theorem d_M_apply_54 : decode c_M_apply 54 = .ok (.iload_n 1, 1) := by decide +kernel
theorem d_M_apply_55 : decode c_M_apply 55 = .ok (.aload_n 0, 1) := by decide +kernel
theorem d_M_apply_56 : decode c_M_apply 56 = .ok (.getfield 19, 3) := by decide +kernel
theorem d_M_apply_59 : decode c_M_apply 59 = .ok (.iload_n 3, 1) := by decide +kernel
theorem d_M_apply_60 : decode c_M_apply 60 = .ok (.iaload, 1) := by decide +kernel
theorem d_M_apply_61 : decode c_M_apply 61 = .ok (.invokevirtual 180, 3) := by decide +kernel
theorem d_M_apply_64 : decode c_M_apply 64 = .ok (.lmul, 1) := by decide +kernel
theorem d_M_apply_65 : decode c_M_apply 65 = .ok (.ldc2_w 115, 3) := by decide +kernel
theorem d_M_apply_68 : decode c_M_apply 68 = .ok (.ldiv, 1) := by decide +kernel
theorem d_M_apply_69 : decode c_M_apply 69 = .ok (.invokevirtual 156, 3) := by decide +kernel
theorem d_M_apply_72 : decode c_M_apply 72 = .ok (.iinc 3 1, 3) := by decide +kernel
theorem d_M_apply_75 : decode c_M_apply 75 = .ok (.goto (-48), 3) := by decide +kernel
theorem d_M_apply_78 : decode c_M_apply 78 = .ok (.iconst 0, 1) := by decide +kernel
theorem d_M_apply_79 : decode c_M_apply 79 = .ok (.istore_n 3, 1) := by decide +kernel
theorem d_M_apply_80 : decode c_M_apply 80 = .ok (.iload_n 3, 1) := by decide +kernel
theorem d_M_apply_81 : decode c_M_apply 81 = .ok (.bipush 12, 2) := by decide +kernel
theorem d_M_apply_83 : decode c_M_apply 83 = .ok (.if_icmp .ge 69, 3) := by decide +kernel
theorem d_M_apply_86 : decode c_M_apply 86 = .ok (.aload_n 0, 1) := by decide +kernel
theorem d_M_apply_87 : decode c_M_apply 87 = .ok (.getfield 7, 3) := by decide +kernel
theorem d_M_apply_90 : decode c_M_apply 90 = .ok (.iload_n 3, 1) := by decide +kernel
theorem d_M_apply_91 : decode c_M_apply 91 = .ok (.iaload, 1) := by decide +kernel
theorem d_M_apply_92 : decode c_M_apply 92 = .ok (.ifCond .le 54, 3) := by decide +kernel
theorem d_M_apply_95 : decode c_M_apply 95 = .ok (.aload_n 0, 1) := by decide +kernel
theorem d_M_apply_96 : decode c_M_apply 96 = .ok (.getfield 16, 3) := by decide +kernel
theorem d_M_apply_99 : decode c_M_apply 99 = .ok (.iload_n 3, 1) := by decide +kernel
theorem d_M_apply_100 : decode c_M_apply 100 = .ok (.iaload, 1) := by decide +kernel
theorem d_M_apply_101 : decode c_M_apply 101 = .ok (.iload_n 2, 1) := by decide +kernel
theorem d_M_apply_102 : decode c_M_apply 102 = .ok (.if_icmp .ne 44, 3) := by decide +kernel
theorem d_M_apply_105 : decode c_M_apply 105 = .ok (.aload_n 0, 1) := by decide +kernel
theorem d_M_apply_106 : decode c_M_apply 106 = .ok (.getfield 75, 3) := by decide +kernel
theorem d_M_apply_109 : decode c_M_apply 109 = .ok (.iload_n 3, 1) := by decide +kernel
theorem d_M_apply_110 : decode c_M_apply 110 = .ok (.laload, 1) := by decide +kernel
theorem d_M_apply_111 : decode c_M_apply 111 = .ok (.aload_n 0, 1) := by decide +kernel
theorem d_M_apply_112 : decode c_M_apply 112 = .ok (.iload_n 1, 1) := by decide +kernel
theorem d_M_apply_113 : decode c_M_apply 113 = .ok (.iload_n 3, 1) := by decide +kernel
theorem d_M_apply_114 : decode c_M_apply 114 = .ok (.invokevirtual 180, 3) := by decide +kernel
theorem d_M_apply_117 : decode c_M_apply 117 = .ok (.lmul, 1) := by decide +kernel
theorem d_M_apply_118 : decode c_M_apply 118 = .ok (.ldc2_w 115, 3) := by decide +kernel
theorem d_M_apply_121 : decode c_M_apply 121 = .ok (.ldiv, 1) := by decide +kernel
theorem d_M_apply_122 : decode c_M_apply 122 = .ok (.lstore 4, 2) := by decide +kernel
theorem d_M_apply_124 : decode c_M_apply 124 = .ok (.aload_n 0, 1) := by decide +kernel
theorem d_M_apply_125 : decode c_M_apply 125 = .ok (.getfield 75, 3) := by decide +kernel
theorem d_M_apply_128 : decode c_M_apply 128 = .ok (.iload_n 3, 1) := by decide +kernel
theorem d_M_apply_129 : decode c_M_apply 129 = .ok (.dup2, 1) := by decide +kernel
theorem d_M_apply_130 : decode c_M_apply 130 = .ok (.laload, 1) := by decide +kernel
theorem d_M_apply_131 : decode c_M_apply 131 = .ok (.lload 4, 2) := by decide +kernel
theorem d_M_apply_133 : decode c_M_apply 133 = .ok (.lsub, 1) := by decide +kernel
theorem d_M_apply_134 : decode c_M_apply 134 = .ok (.lastore, 1) := by decide +kernel
theorem d_M_apply_135 : decode c_M_apply 135 = .ok (.aload_n 0, 1) := by decide +kernel
theorem d_M_apply_136 : decode c_M_apply 136 = .ok (.getfield 69, 3) := by decide +kernel
theorem d_M_apply_139 : decode c_M_apply 139 = .ok (.iload_n 1, 1) := by decide +kernel
theorem d_M_apply_140 : decode c_M_apply 140 = .ok (.dup2, 1) := by decide +kernel
theorem d_M_apply_141 : decode c_M_apply 141 = .ok (.laload, 1) := by decide +kernel
theorem d_M_apply_142 : decode c_M_apply 142 = .ok (.lload 4, 2) := by decide +kernel
theorem d_M_apply_144 : decode c_M_apply 144 = .ok (.ladd, 1) := by decide +kernel
theorem d_M_apply_145 : decode c_M_apply 145 = .ok (.lastore, 1) := by decide +kernel
theorem d_M_apply_146 : decode c_M_apply 146 = .ok (.iinc 3 1, 3) := by decide +kernel
theorem d_M_apply_149 : decode c_M_apply 149 = .ok (.goto (-69), 3) := by decide +kernel
theorem d_M_apply_152 : decode c_M_apply 152 = .ok (.goto 119, 3) := by decide +kernel
theorem d_M_apply_155 : decode c_M_apply 155 = .ok (.aload_n 0, 1) := by decide +kernel
theorem d_M_apply_156 : decode c_M_apply 156 = .ok (.iload_n 1, 1) := by decide +kernel
theorem d_M_apply_157 : decode c_M_apply 157 = .ok (.invokevirtual 144, 3) := by decide +kernel
theorem d_M_apply_160 : decode c_M_apply 160 = .ok (.iconst 2, 1) := by decide +kernel
theorem d_M_apply_161 : decode c_M_apply 161 = .ok (.if_icmp .ne 11, 3) := by decide +kernel
theorem d_M_apply_164 : decode c_M_apply 164 = .ok (.aload_n 0, 1) := by decide +kernel
theorem d_M_apply_165 : decode c_M_apply 165 = .ok (.iload_n 1, 1) := by decide +kernel
theorem d_M_apply_166 : decode c_M_apply 166 = .ok (.invokevirtual 184, 3) := by decide +kernel
theorem d_M_apply_169 : decode c_M_apply 169 = .ok (.goto 102, 3) := by decide +kernel
theorem d_M_apply_172 : decode c_M_apply 172 = .ok (.aload_n 0, 1) := by decide +kernel
theorem d_M_apply_173 : decode c_M_apply 173 = .ok (.iload_n 1, 1) := by decide +kernel
theorem d_M_apply_174 : decode c_M_apply 174 = .ok (.invokevirtual 144, 3) := by decide +kernel
theorem d_M_apply_177 : decode c_M_apply 177 = .ok (.iconst 3, 1) := by decide +kernel
theorem d_M_apply_178 : decode c_M_apply 178 = .ok (.if_icmp .ne 11, 3) := by decide +kernel
theorem d_M_apply_181 : decode c_M_apply 181 = .ok (.aload_n 0, 1) := by decide +kernel
theorem d_M_apply_182 : decode c_M_apply 182 = .ok (.iload_n 1, 1) := by decide +kernel
theorem d_M_apply_183 : decode c_M_apply 183 = .ok (.invokevirtual 188, 3) := by decide +kernel
theorem d_M_apply_186 : decode c_M_apply 186 = .ok (.goto 85, 3) := by decide +kernel
theorem d_M_apply_189 : decode c_M_apply 189 = .ok (.lconst 0, 1) := by decide +kernel
theorem d_M_apply_190 : decode c_M_apply 190 = .ok (.lstore_n 3, 1) := by decide +kernel
theorem d_M_apply_191 : decode c_M_apply 191 = .ok (.iconst 0, 1) := by decide +kernel
theorem d_M_apply_192 : decode c_M_apply 192 = .ok (.istore 5, 2) := by decide +kernel
theorem d_M_apply_194 : decode c_M_apply 194 = .ok (.iload 5, 2) := by decide +kernel
theorem d_M_apply_196 : decode c_M_apply 196 = .ok (.aload_n 0, 1) := by decide +kernel
theorem d_M_apply_197 : decode c_M_apply 197 = .ok (.getfield 97, 3) := by decide +kernel
theorem d_M_apply_200 : decode c_M_apply 200 = .ok (.if_icmp .ge 47, 3) := by decide +kernel
theorem d_M_apply_203 : decode c_M_apply 203 = .ok (.aload_n 0, 1) := by decide +kernel
theorem d_M_apply_204 : decode c_M_apply 204 = .ok (.getfield 78, 3) := by decide +kernel
theorem d_M_apply_207 : decode c_M_apply 207 = .ok (.iload 5, 2) := by decide +kernel
theorem d_M_apply_209 : decode c_M_apply 209 = .ok (.aload_n 0, 1) := by decide +kernel
theorem d_M_apply_210 : decode c_M_apply 210 = .ok (.iload 5, 2) := by decide +kernel
theorem d_M_apply_212 : decode c_M_apply 212 = .ok (.iload_n 2, 1) := by decide +kernel
theorem d_M_apply_213 : decode c_M_apply 213 = .ok (.invokevirtual 160, 3) := by decide +kernel
theorem d_M_apply_216 : decode c_M_apply 216 = .ok (.bastore, 1) := by decide +kernel
theorem d_M_apply_217 : decode c_M_apply 217 = .ok (.lload_n 3, 1) := by decide +kernel
theorem d_M_apply_218 : decode c_M_apply 218 = .ok (.aload_n 0, 1) := by decide +kernel
theorem d_M_apply_219 : decode c_M_apply 219 = .ok (.getfield 78, 3) := by decide +kernel
theorem d_M_apply_222 : decode c_M_apply 222 = .ok (.iload 5, 2) := by decide +kernel
theorem d_M_apply_224 : decode c_M_apply 224 = .ok (.baload, 1) := by decide +kernel
theorem d_M_apply_225 : decode c_M_apply 225 = .ok (.ifCond .eq 13, 3) := by decide +kernel
theorem d_M_apply_228 : decode c_M_apply 228 = .ok (.aload_n 0, 1) := by decide +kernel
theorem d_M_apply_229 : decode c_M_apply 229 = .ok (.getfield 60, 3) := by decide +kernel
theorem d_M_apply_232 : decode c_M_apply 232 = .ok (.iload 5, 2) := by decide +kernel
theorem d_M_apply_234 : decode c_M_apply 234 = .ok (.laload, 1) := by decide +kernel
theorem d_M_apply_235 : decode c_M_apply 235 = .ok (.goto 4, 3) := by decide +kernel
theorem d_M_apply_238 : decode c_M_apply 238 = .ok (.lconst 0, 1) := by decide +kernel
theorem d_M_apply_239 : decode c_M_apply 239 = .ok (.ladd, 1) := by decide +kernel
theorem d_M_apply_240 : decode c_M_apply 240 = .ok (.lstore_n 3, 1) := by decide +kernel
theorem d_M_apply_241 : decode c_M_apply 241 = .ok (.iinc 5 1, 3) := by decide +kernel
theorem d_M_apply_244 : decode c_M_apply 244 = .ok (.goto (-50), 3) := by decide +kernel
theorem d_M_apply_247 : decode c_M_apply 247 = .ok (.aload_n 0, 1) := by decide +kernel
theorem d_M_apply_248 : decode c_M_apply 248 = .ok (.iload_n 1, 1) := by decide +kernel
theorem d_M_apply_249 : decode c_M_apply 249 = .ok (.lload_n 3, 1) := by decide +kernel
theorem d_M_apply_250 : decode c_M_apply 250 = .ok (.aload_n 0, 1) := by decide +kernel
theorem d_M_apply_251 : decode c_M_apply 251 = .ok (.getfield 38, 3) := by decide +kernel
theorem d_M_apply_254 : decode c_M_apply 254 = .ok (.iload_n 1, 1) := by decide +kernel
theorem d_M_apply_255 : decode c_M_apply 255 = .ok (.iaload, 1) := by decide +kernel
theorem d_M_apply_256 : decode c_M_apply 256 = .ok (.i2l, 1) := by decide +kernel
theorem d_M_apply_257 : decode c_M_apply 257 = .ok (.aload_n 0, 1) := by decide +kernel
theorem d_M_apply_258 : decode c_M_apply 258 = .ok (.getfield 41, 3) := by decide +kernel
theorem d_M_apply_261 : decode c_M_apply 261 = .ok (.iload_n 1, 1) := by decide +kernel
theorem d_M_apply_262 : decode c_M_apply 262 = .ok (.iaload, 1) := by decide +kernel
theorem d_M_apply_263 : decode c_M_apply 263 = .ok (.i2l, 1) := by decide +kernel
theorem d_M_apply_264 : decode c_M_apply 264 = .ok (.invokestatic 164, 3) := by decide +kernel
theorem d_M_apply_267 : decode c_M_apply 267 = .ok (.lload_n 3, 1) := by decide +kernel
theorem d_M_apply_268 : decode c_M_apply 268 = .ok (.invokevirtual 176, 3) := by decide +kernel
theorem d_M_apply_271 : decode c_M_apply 271 = .ok (.return_, 1) := by decide +kernel
theorem d_M_reckon_0 : decode c_M_reckon 0 = .ok (.iconst 0, 1) := by decide +kernel
theorem d_M_reckon_1 : decode c_M_reckon 1 = .ok (.istore_n 1, 1) := by decide +kernel
theorem d_M_reckon_2 : decode c_M_reckon 2 = .ok (.iload_n 1, 1) := by decide +kernel
theorem d_M_reckon_3 : decode c_M_reckon 3 = .ok (.aload_n 0, 1) := by decide +kernel
theorem d_M_reckon_4 : decode c_M_reckon 4 = .ok (.getfield 97, 3) := by decide +kernel
theorem d_M_reckon_7 : decode c_M_reckon 7 = .ok (.if_icmp .ge 35, 3) := by decide +kernel
theorem d_M_reckon_10 : decode c_M_reckon 10 = .ok (.aload_n 0, 1) := by decide +kernel
theorem d_M_reckon_11 : decode c_M_reckon 11 = .ok (.getfield 60, 3) := by decide +kernel
theorem d_M_reckon_14 : decode c_M_reckon 14 = .ok (.iload_n 1, 1) := by decide +kernel
theorem d_M_reckon_15 : decode c_M_reckon 15 = .ok (.aload_n 0, 1) := by decide +kernel
theorem d_M_reckon_16 : decode c_M_reckon 16 = .ok (.getfield 31, 3) := by decide +kernel
theorem d_M_reckon_19 : decode c_M_reckon 19 = .ok (.iload_n 1, 1) := by decide +kernel
theorem d_M_reckon_20 : decode c_M_reckon 20 = .ok (.baload, 1) := by decide +kernel
theorem d_M_reckon_21 : decode c_M_reckon 21 = .ok (.ifCond .eq 7, 3) := by decide +kernel
theorem d_M_reckon_24 : decode c_M_reckon 24 = .ok (.lconst 0, 1) := by decide +kernel
theorem d_M_reckon_25 : decode c_M_reckon 25 = .ok (.goto 10, 3) := by decide +kernel
theorem d_M_reckon_28 : decode c_M_reckon 28 = .ok (.aload_n 0, 1) := by decide +kernel
theorem d_M_reckon_29 : decode c_M_reckon 29 = .ok (.getfield 28, 3) := by decide +kernel
theorem d_M_reckon_32 : decode c_M_reckon 32 = .ok (.iload_n 1, 1) := by decide +kernel
theorem d_M_reckon_33 : decode c_M_reckon 33 = .ok (.iaload, 1) := by decide +kernel
theorem d_M_reckon_34 : decode c_M_reckon 34 = .ok (.i2l, 1) := by decide +kernel
theorem d_M_reckon_35 : decode c_M_reckon 35 = .ok (.lastore, 1) := by decide +kernel
theorem d_M_reckon_36 : decode c_M_reckon 36 = .ok (.iinc 1 1, 3) := by decide +kernel
theorem d_M_reckon_39 : decode c_M_reckon 39 = .ok (.goto (-37), 3) := by decide +kernel
theorem d_M_reckon_42 : decode c_M_reckon 42 = .ok (.iconst 0, 1) := by decide +kernel
theorem d_M_reckon_43 : decode c_M_reckon 43 = .ok (.istore_n 1, 1) := by decide +kernel
theorem d_M_reckon_44 : decode c_M_reckon 44 = .ok (.iload_n 1, 1) := by decide +kernel
theorem d_M_reckon_45 : decode c_M_reckon 45 = .ok (.sipush 400, 3) := by decide +kernel
theorem d_M_reckon_48 : decode c_M_reckon 48 = .ok (.if_icmp .ge 16, 3) := by decide +kernel
theorem d_M_reckon_51 : decode c_M_reckon 51 = .ok (.aload_n 0, 1) := by decide +kernel
theorem d_M_reckon_52 : decode c_M_reckon 52 = .ok (.getfield 63, 3) := by decide +kernel
theorem d_M_reckon_55 : decode c_M_reckon 55 = .ok (.iload_n 1, 1) := by decide +kernel
theorem d_M_reckon_56 : decode c_M_reckon 56 = .ok (.lconst 0, 1) := by decide +kernel
theorem d_M_reckon_57 : decode c_M_reckon 57 = .ok (.lastore, 1) := by decide +kernel
theorem d_M_reckon_58 : decode c_M_reckon 58 = .ok (.iinc 1 1, 3) := by decide +kernel
theorem d_M_reckon_61 : decode c_M_reckon 61 = .ok (.goto (-17), 3) := by decide +kernel
theorem d_M_reckon_64 : decode c_M_reckon 64 = .ok (.iconst 0, 1) := by decide +kernel
theorem d_M_reckon_65 : decode c_M_reckon 65 = .ok (.istore_n 1, 1) := by decide +kernel
theorem d_M_reckon_66 : decode c_M_reckon 66 = .ok (.iload_n 1, 1) := by decide +kernel
theorem d_M_reckon_67 : decode c_M_reckon 67 = .ok (.bipush 12, 2) := by decide +kernel
theorem d_M_reckon_69 : decode c_M_reckon 69 = .ok (.if_icmp .ge 22, 3) := by decide +kernel
theorem d_M_reckon_72 : decode c_M_reckon 72 = .ok (.aload_n 0, 1) := by decide +kernel
theorem d_M_reckon_73 : decode c_M_reckon 73 = .ok (.getfield 75, 3) := by decide +kernel
theorem d_M_reckon_76 : decode c_M_reckon 76 = .ok (.iload_n 1, 1) := by decide +kernel
theorem d_M_reckon_77 : decode c_M_reckon 77 = .ok (.aload_n 0, 1) := by decide +kernel
theorem d_M_reckon_78 : decode c_M_reckon 78 = .ok (.getfield 13, 3) := by decide +kernel
theorem d_M_reckon_81 : decode c_M_reckon 81 = .ok (.iload_n 1, 1) := by decide +kernel
theorem d_M_reckon_82 : decode c_M_reckon 82 = .ok (.iaload, 1) := by decide +kernel
theorem d_M_reckon_83 : decode c_M_reckon 83 = .ok (.i2l, 1) := by decide +kernel
theorem d_M_reckon_84 : decode c_M_reckon 84 = .ok (.lastore, 1) := by decide +kernel
theorem d_M_reckon_85 : decode c_M_reckon 85 = .ok (.iinc 1 1, 3) := by decide +kernel
theorem d_M_reckon_88 : decode c_M_reckon 88 = .ok (.goto (-22), 3) := by decide +kernel
theorem d_M_reckon_91 : decode c_M_reckon 91 = .ok (.iconst 0, 1) := by decide +kernel
theorem d_M_reckon_92 : decode c_M_reckon 92 = .ok (.istore_n 1, 1) := by decide +kernel
theorem d_M_reckon_93 : decode c_M_reckon 93 = .ok (.iload_n 1, 1) := by decide +kernel
theorem d_M_reckon_94 : decode c_M_reckon 94 = .ok (.bipush 100, 2) := by decide +kernel
theorem d_M_reckon_96 : decode c_M_reckon 96 = .ok (.if_icmp .ge 16, 3) := by decide +kernel
theorem d_M_reckon_99 : decode c_M_reckon 99 = .ok (.aload_n 0, 1) := by decide +kernel
theorem d_M_reckon_100 : decode c_M_reckon 100 = .ok (.getfield 72, 3) := by decide +kernel
theorem d_M_reckon_103 : decode c_M_reckon 103 = .ok (.iload_n 1, 1) := by decide +kernel
theorem d_M_reckon_104 : decode c_M_reckon 104 = .ok (.iconst (-1), 1) := by decide +kernel
theorem d_M_reckon_105 : decode c_M_reckon 105 = .ok (.iastore, 1) := by decide +kernel
theorem d_M_reckon_106 : decode c_M_reckon 106 = .ok (.iinc 1 1, 3) := by decide +kernel
theorem d_M_reckon_109 : decode c_M_reckon 109 = .ok (.goto (-16), 3) := by decide +kernel
theorem d_M_reckon_112 : decode c_M_reckon 112 = .ok (.iconst 0, 1) := by decide +kernel
theorem d_M_reckon_113 : decode c_M_reckon 113 = .ok (.istore_n 1, 1) := by decide +kernel
theorem d_M_reckon_114 : decode c_M_reckon 114 = .ok (.iload_n 1, 1) := by decide +kernel
theorem d_M_reckon_115 : decode c_M_reckon 115 = .ok (.bipush 10, 2) := by decide +kernel
theorem d_M_reckon_117 : decode c_M_reckon 117 = .ok (.if_icmp .ge 23, 3) := by decide +kernel
theorem d_M_reckon_120 : decode c_M_reckon 120 = .ok (.aload_n 0, 1) := by decide +kernel
theorem d_M_reckon_121 : decode c_M_reckon 121 = .ok (.getfield 66, 3) := by decide +kernel
theorem d_M_reckon_124 : decode c_M_reckon 124 = .ok (.iload_n 1, 1) := by decide +kernel
theorem d_M_reckon_125 : decode c_M_reckon 125 = .ok (.lconst 0, 1) := by decide +kernel
theorem d_M_reckon_126 : decode c_M_reckon 126 = .ok (.lastore, 1) := by decide +kernel
theorem d_M_reckon_127 : decode c_M_reckon 127 = .ok (.aload_n 0, 1) := by decide +kernel
theorem d_M_reckon_128 : decode c_M_reckon 128 = .ok (.getfield 69, 3) := by decide +kernel
theorem d_M_reckon_131 : decode c_M_reckon 131 = .ok (.iload_n 1, 1) := by decide +kernel
theorem d_M_reckon_132 : decode c_M_reckon 132 = .ok (.lconst 0, 1) := by decide +kernel
theorem d_M_reckon_133 : decode c_M_reckon 133 = .ok (.lastore, 1) := by decide +kernel
theorem d_M_reckon_134 : decode c_M_reckon 134 = .ok (.iinc 1 1, 3) := by decide +kernel
theorem d_M_reckon_137 : decode c_M_reckon 137 = .ok (.goto (-23), 3) := by decide +kernel
theorem d_M_reckon_140 : decode c_M_reckon 140 = .ok (.iconst 0, 1) := by decide +kernel
theorem d_M_reckon_141 : decode c_M_reckon 141 = .ok (.istore_n 1, 1) := by decide +kernel
theorem d_M_reckon_142 : decode c_M_reckon 142 = .ok (.iload_n 1, 1) := by decide +kernel
theorem d_M_reckon_143 : decode c_M_reckon 143 = .ok (.iconst 5, 1) := by decide +kernel
theorem d_M_reckon_144 : decode c_M_reckon 144 = .ok (.if_icmp .ge 39, 3) := by decide +kernel
theorem d_M_reckon_147 : decode c_M_reckon 147 = .ok (.iconst 0, 1) := by decide +kernel
theorem d_M_reckon_148 : decode c_M_reckon 148 = .ok (.istore_n 2, 1) := by decide +kernel
theorem d_M_reckon_149 : decode c_M_reckon 149 = .ok (.iload_n 2, 1) := by decide +kernel
theorem d_M_reckon_150 : decode c_M_reckon 150 = .ok (.aload_n 0, 1) := by decide +kernel
theorem d_M_reckon_151 : decode c_M_reckon 151 = .ok (.getfield 100, 3) := by decide +kernel
theorem d_M_reckon_154 : decode c_M_reckon 154 = .ok (.if_icmp .ge 23, 3) := by decide +kernel
theorem d_M_reckon_157 : decode c_M_reckon 157 = .ok (.aload_n 0, 1) := by decide +kernel
theorem d_M_reckon_158 : decode c_M_reckon 158 = .ok (.iload_n 2, 1) := by decide +kernel
theorem d_M_reckon_159 : decode c_M_reckon 159 = .ok (.invokevirtual 144, 3) := by decide +kernel
theorem d_M_reckon_162 : decode c_M_reckon 162 = .ok (.iload_n 1, 1) := by decide +kernel
theorem d_M_reckon_163 : decode c_M_reckon 163 = .ok (.if_icmp .ne 8, 3) := by decide +kernel
theorem d_M_reckon_166 : decode c_M_reckon 166 = .ok (.aload_n 0, 1) := by decide +kernel
theorem d_M_reckon_167 : decode c_M_reckon 167 = .ok (.iload_n 2, 1) := by decide +kernel
theorem d_M_reckon_168 : decode c_M_reckon 168 = .ok (.invokevirtual 191, 3) := by decide +kernel
theorem d_M_reckon_171 : decode c_M_reckon 171 = .ok (.iinc 2 1, 3) := by decide +kernel
theorem d_M_reckon_174 : decode c_M_reckon 174 = .ok (.goto (-25), 3) := by decide +kernel
theorem d_M_reckon_177 : decode c_M_reckon 177 = .ok (.iinc 1 1, 3) := by decide +kernel
theorem d_M_reckon_180 : decode c_M_reckon 180 = .ok (.goto (-38), 3) := by decide +kernel
theorem d_M_reckon_183 : decode c_M_reckon 183 = .ok (.return_, 1) := by decide +kernel
theorem d_M_bill_0 : decode c_M_bill 0 = .ok (.aload_n 0, 1) := by decide +kernel
theorem d_M_bill_1 : decode c_M_bill 1 = .ok (.iload_n 1, 1) := by decide +kernel
theorem d_M_bill_2 : decode c_M_bill 2 = .ok (.i2l, 1) := by decide +kernel
theorem d_M_bill_3 : decode c_M_bill 3 = .ok (.lconst 0, 1) := by decide +kernel
theorem d_M_bill_4 : decode c_M_bill 4 = .ok (.ldc2_w 119, 3) := by decide +kernel
theorem d_M_bill_7 : decode c_M_bill 7 = .ok (.invokestatic 93, 3) := by decide +kernel
theorem d_M_bill_10 : decode c_M_bill 10 = .ok (.ifCond .ne 7, 3) := by decide +kernel
theorem d_M_bill_13 : decode c_M_bill 13 = .ok (.iconst 1, 1) := by decide +kernel
theorem d_M_bill_14 : decode c_M_bill 14 = .ok (.goto 4, 3) := by decide +kernel
theorem d_M_bill_17 : decode c_M_bill 17 = .ok (.iconst 0, 1) := by decide +kernel
theorem d_M_bill_18 : decode c_M_bill 18 = .ok (.iconst 0, 1) := by decide +kernel
theorem d_M_bill_19 : decode c_M_bill 19 = .ok (.invokevirtual 107, 3) := by decide +kernel
theorem d_M_bill_22 : decode c_M_bill 22 = .ok (.ifCond .eq 5, 3) := by decide +kernel
theorem d_M_bill_25 : decode c_M_bill 25 = .ok (.lconst 0, 1) := by decide +kernel
theorem d_M_bill_26 : decode c_M_bill 26 = .ok (.lreturn, 1) := by decide +kernel
theorem d_M_bill_27 : decode c_M_bill 27 = .ok (.aload_n 0, 1) := by decide +kernel
theorem d_M_bill_28 : decode c_M_bill 28 = .ok (.invokevirtual 194, 3) := by decide +kernel
theorem d_M_bill_31 : decode c_M_bill 31 = .ok (.lconst 0, 1) := by decide +kernel
theorem d_M_bill_32 : decode c_M_bill 32 = .ok (.lstore_n 2, 1) := by decide +kernel
theorem d_M_bill_33 : decode c_M_bill 33 = .ok (.iconst 0, 1) := by decide +kernel
theorem d_M_bill_34 : decode c_M_bill 34 = .ok (.istore 4, 2) := by decide +kernel
theorem d_M_bill_36 : decode c_M_bill 36 = .ok (.iload 4, 2) := by decide +kernel
theorem d_M_bill_38 : decode c_M_bill 38 = .ok (.aload_n 0, 1) := by decide +kernel
theorem d_M_bill_39 : decode c_M_bill 39 = .ok (.getfield 100, 3) := by decide +kernel
theorem d_M_bill_42 : decode c_M_bill 42 = .ok (.if_icmp .ge 77, 3) := by decide +kernel
theorem d_M_bill_45 : decode c_M_bill 45 = .ok (.aload_n 0, 1) := by decide +kernel
theorem d_M_bill_46 : decode c_M_bill 46 = .ok (.getfield 57, 3) := by decide +kernel
theorem d_M_bill_49 : decode c_M_bill 49 = .ok (.aload_n 0, 1) := by decide +kernel
theorem d_M_bill_50 : decode c_M_bill 50 = .ok (.iload 4, 2) := by decide +kernel
theorem d_M_bill_52 : decode c_M_bill 52 = .ok (.invokevirtual 130, 3) := by decide +kernel
theorem d_M_bill_55 : decode c_M_bill 55 = .ok (.baload, 1) := by decide +kernel
theorem d_M_bill_56 : decode c_M_bill 56 = .ok (.ifCond .ne 57, 3) := by decide +kernel
theorem d_M_bill_59 : decode c_M_bill 59 = .ok (.lload_n 2, 1) := by decide +kernel
theorem d_M_bill_60 : decode c_M_bill 60 = .ok (.aload_n 0, 1) := by decide +kernel
theorem d_M_bill_61 : decode c_M_bill 61 = .ok (.iload 4, 2) := by decide +kernel
theorem d_M_bill_63 : decode c_M_bill 63 = .ok (.iload_n 1, 1) := by decide +kernel
theorem d_M_bill_64 : decode c_M_bill 64 = .ok (.aload_n 0, 1) := by decide +kernel
theorem d_M_bill_65 : decode c_M_bill 65 = .ok (.getfield 66, 3) := by decide +kernel
theorem d_M_bill_68 : decode c_M_bill 68 = .ok (.iload 4, 2) := by decide +kernel
theorem d_M_bill_70 : decode c_M_bill 70 = .ok (.laload, 1) := by decide +kernel
theorem d_M_bill_71 : decode c_M_bill 71 = .ok (.invokevirtual 210, 3) := by decide +kernel
theorem d_M_bill_74 : decode c_M_bill 74 = .ok (.aload_n 0, 1) := by decide +kernel
theorem d_M_bill_75 : decode c_M_bill 75 = .ok (.iload 4, 2) := by decide +kernel
theorem d_M_bill_77 : decode c_M_bill 77 = .ok (.iload_n 1, 1) := by decide +kernel
theorem d_M_bill_78 : decode c_M_bill 78 = .ok (.aload_n 0, 1) := by decide +kernel
theorem d_M_bill_79 : decode c_M_bill 79 = .ok (.iload 4, 2) := by decide +kernel
theorem d_M_bill_81 : decode c_M_bill 81 = .ok (.invokevirtual 207, 3) := by decide +kernel
theorem d_M_bill_84 : decode c_M_bill 84 = .ok (.invokevirtual 210, 3) := by decide +kernel
theorem d_M_bill_87 : decode c_M_bill 87 = .ok (.ladd, 1) := by decide +kernel
theorem d_M_bill_88 : decode c_M_bill 88 = .ok (.aload_n 0, 1) := by decide +kernel
theorem d_M_bill_89 : decode c_M_bill 89 = .ok (.iload 4, 2) := by decide +kernel
theorem d_M_bill_91 : decode c_M_bill 91 = .ok (.iload_n 1, 1) := by decide +kernel
theorem d_M_bill_92 : decode c_M_bill 92 = .ok (.aload_n 0, 1) := by decide +kernel
theorem d_M_bill_93 : decode c_M_bill 93 = .ok (.getfield 69, 3) := by decide +kernel
theorem d_M_bill_96 : decode c_M_bill 96 = .ok (.iload 4, 2) := by decide +kernel
theorem d_M_bill_98 : decode c_M_bill 98 = .ok (.laload, 1) := by decide +kernel
theorem d_M_bill_99 : decode c_M_bill 99 = .ok (.invokevirtual 210, 3) := by decide +kernel
theorem d_M_bill_102 : decode c_M_bill 102 = .ok (.lsub, 1) := by decide +kernel
theorem d_M_bill_103 : decode c_M_bill 103 = .ok (.aload_n 0, 1) := by decide +kernel
theorem d_M_bill_104 : decode c_M_bill 104 = .ok (.iload 4, 2) := by decide +kernel
theorem d_M_bill_106 : decode c_M_bill 106 = .ok (.iload_n 1, 1) := by decide +kernel
theorem d_M_bill_107 : decode c_M_bill 107 = .ok (.invokevirtual 214, 3) := by decide +kernel
theorem d_M_bill_110 : decode c_M_bill 110 = .ok (.lsub, 1) := by decide +kernel
theorem d_M_bill_111 : decode c_M_bill 111 = .ok (.ladd, 1) := by decide +kernel
theorem d_M_bill_112 : decode c_M_bill 112 = .ok (.lstore_n 2, 1) := by decide +kernel
theorem d_M_bill_113 : decode c_M_bill 113 = .ok (.iinc 4 1, 3) := by decide +kernel
theorem d_M_bill_116 : decode c_M_bill 116 = .ok (.goto (-80), 3) := by decide +kernel
theorem d_M_bill_119 : decode c_M_bill 119 = .ok (.lload_n 2, 1) := by decide +kernel
theorem d_M_bill_120 : decode c_M_bill 120 = .ok (.aload_n 0, 1) := by decide +kernel
theorem d_M_bill_121 : decode c_M_bill 121 = .ok (.getfield 53, 3) := by decide +kernel
theorem d_M_bill_124 : decode c_M_bill 124 = .ok (.iload_n 1, 1) := by decide +kernel
theorem d_M_bill_125 : decode c_M_bill 125 = .ok (.laload, 1) := by decide +kernel
theorem d_M_bill_126 : decode c_M_bill 126 = .ok (.lsub, 1) := by decide +kernel
theorem d_M_bill_127 : decode c_M_bill 127 = .ok (.lstore 4, 2) := by decide +kernel
theorem d_M_bill_129 : decode c_M_bill 129 = .ok (.aload_n 0, 1) := by decide +kernel
theorem d_M_bill_130 : decode c_M_bill 130 = .ok (.getfield 53, 3) := by decide +kernel
theorem d_M_bill_133 : decode c_M_bill 133 = .ok (.iload_n 1, 1) := by decide +kernel
theorem d_M_bill_134 : decode c_M_bill 134 = .ok (.lload_n 2, 1) := by decide +kernel
theorem d_M_bill_135 : decode c_M_bill 135 = .ok (.lastore, 1) := by decide +kernel
theorem d_M_bill_136 : decode c_M_bill 136 = .ok (.lload 4, 2) := by decide +kernel
theorem d_M_bill_138 : decode c_M_bill 138 = .ok (.lreturn, 1) := by decide +kernel
theorem d_M_ceded_0 : decode c_M_ceded 0 = .ok (.aload_n 0, 1) := by decide +kernel
theorem d_M_ceded_1 : decode c_M_ceded 1 = .ok (.aload_n 0, 1) := by decide +kernel
theorem d_M_ceded_2 : decode c_M_ceded 2 = .ok (.iload_n 1, 1) := by decide +kernel
theorem d_M_ceded_3 : decode c_M_ceded 3 = .ok (.invokevirtual 138, 3) := by decide +kernel
theorem d_M_ceded_6 : decode c_M_ceded 6 = .ok (.ifCond .eq 11, 3) := by decide +kernel
theorem d_M_ceded_9 : decode c_M_ceded 9 = .ok (.aload_n 0, 1) := by decide +kernel
theorem d_M_ceded_10 : decode c_M_ceded 10 = .ok (.iload_n 2, 1) := by decide +kernel
theorem d_M_ceded_11 : decode c_M_ceded 11 = .ok (.invokevirtual 127, 3) := by decide +kernel
theorem d_M_ceded_14 : decode c_M_ceded 14 = .ok (.ifCond .ne 7, 3) := by decide +kernel
theorem d_M_ceded_17 : decode c_M_ceded 17 = .ok (.iconst 1, 1) := by decide +kernel
theorem d_M_ceded_18 : decode c_M_ceded 18 = .ok (.goto 4, 3) := by decide +kernel
theorem d_M_ceded_21 : decode c_M_ceded 21 = .ok (.iconst 0, 1) := by decide +kernel
theorem d_M_ceded_22 : decode c_M_ceded 22 = .ok (.iconst 0, 1) := by decide +kernel
theorem d_M_ceded_23 : decode c_M_ceded 23 = .ok (.invokevirtual 107, 3) := by decide +kernel
theorem d_M_ceded_26 : decode c_M_ceded 26 = .ok (.ifCond .eq 5, 3) := by decide +kernel
theorem d_M_ceded_29 : decode c_M_ceded 29 = .ok (.iconst 0, 1) := by decide +kernel
theorem d_M_ceded_30 : decode c_M_ceded 30 = .ok (.ireturn, 1) := by decide +kernel
theorem d_M_ceded_31 : decode c_M_ceded 31 = .ok (.aload_n 0, 1) := by decide +kernel
theorem d_M_ceded_32 : decode c_M_ceded 32 = .ok (.invokevirtual 194, 3) := by decide +kernel
theorem d_M_ceded_35 : decode c_M_ceded 35 = .ok (.aload_n 0, 1) := by decide +kernel
theorem d_M_ceded_36 : decode c_M_ceded 36 = .ok (.getfield 63, 3) := by decide +kernel
theorem d_M_ceded_39 : decode c_M_ceded 39 = .ok (.bipush 40, 2) := by decide +kernel
theorem d_M_ceded_41 : decode c_M_ceded 41 = .ok (.iload_n 2, 1) := by decide +kernel
theorem d_M_ceded_42 : decode c_M_ceded 42 = .ok (.imul, 1) := by decide +kernel
theorem d_M_ceded_43 : decode c_M_ceded 43 = .ok (.iload_n 1, 1) := by decide +kernel
theorem d_M_ceded_44 : decode c_M_ceded 44 = .ok (.iadd, 1) := by decide +kernel
theorem d_M_ceded_45 : decode c_M_ceded 45 = .ok (.laload, 1) := by decide +kernel
theorem d_M_ceded_46 : decode c_M_ceded 46 = .ok (.l2i, 1) := by decide +kernel
theorem d_M_ceded_47 : decode c_M_ceded 47 = .ok (.ireturn, 1) := by decide +kernel
theorem d_M_due_0 : decode c_M_due 0 = .ok (.aload_n 0, 1) := by decide +kernel
theorem d_M_due_1 : decode c_M_due 1 = .ok (.aload_n 0, 1) := by decide +kernel
theorem d_M_due_2 : decode c_M_due 2 = .ok (.iload_n 1, 1) := by decide +kernel
theorem d_M_due_3 : decode c_M_due 3 = .ok (.invokevirtual 127, 3) := by decide +kernel
theorem d_M_due_6 : decode c_M_due 6 = .ok (.ifCond .eq 25, 3) := by decide +kernel
theorem d_M_due_9 : decode c_M_due 9 = .ok (.iload_n 2, 1) := by decide +kernel
theorem d_M_due_10 : decode c_M_due 10 = .ok (.i2l, 1) := by decide +kernel
theorem d_M_due_11 : decode c_M_due 11 = .ok (.lconst 0, 1) := by decide +kernel
theorem d_M_due_12 : decode c_M_due 12 = .ok (.ldc2_w 119, 3) := by decide +kernel
theorem d_M_due_15 : decode c_M_due 15 = .ok (.invokestatic 93, 3) := by decide +kernel
theorem d_M_due_18 : decode c_M_due 18 = .ok (.ifCond .eq 13, 3) := by decide +kernel
theorem d_M_due_21 : decode c_M_due 21 = .ok (.iload_n 3, 1) := by decide +kernel
theorem d_M_due_22 : decode c_M_due 22 = .ok (.i2l, 1) := by decide +kernel
theorem d_M_due_23 : decode c_M_due 23 = .ok (.lconst 0, 1) := by decide +kernel
theorem d_M_due_24 : decode c_M_due 24 = .ok (.lconst 1, 1) := by decide +kernel
theorem d_M_due_25 : decode c_M_due 25 = .ok (.invokestatic 93, 3) := by decide +kernel
theorem d_M_due_28 : decode c_M_due 28 = .ok (.ifCond .ne 7, 3) := by decide +kernel
theorem d_M_due_31 : decode c_M_due 31 = .ok (.iconst 1, 1) := by decide +kernel
theorem d_M_due_32 : decode c_M_due 32 = .ok (.goto 4, 3) := by decide +kernel
theorem d_M_due_35 : decode c_M_due 35 = .ok (.iconst 0, 1) := by decide +kernel
theorem d_M_due_36 : decode c_M_due 36 = .ok (.iconst 0, 1) := by decide +kernel
theorem d_M_due_37 : decode c_M_due 37 = .ok (.invokevirtual 107, 3) := by decide +kernel
theorem d_M_due_40 : decode c_M_due 40 = .ok (.ifCond .eq 5, 3) := by decide +kernel
theorem d_M_due_43 : decode c_M_due 43 = .ok (.lconst 0, 1) := by decide +kernel
theorem d_M_due_44 : decode c_M_due 44 = .ok (.lreturn, 1) := by decide +kernel
theorem d_M_due_45 : decode c_M_due 45 = .ok (.aload_n 0, 1) := by decide +kernel
theorem d_M_due_46 : decode c_M_due 46 = .ok (.invokevirtual 194, 3) := by decide +kernel
theorem d_M_due_49 : decode c_M_due 49 = .ok (.iload_n 3, 1) := by decide +kernel
theorem d_M_due_50 : decode c_M_due 50 = .ok (.ifCond .ne 18, 3) := by decide +kernel
theorem d_M_due_53 : decode c_M_due 53 = .ok (.aload_n 0, 1) := by decide +kernel
theorem d_M_due_54 : decode c_M_due 54 = .ok (.iload_n 1, 1) := by decide +kernel
theorem d_M_due_55 : decode c_M_due 55 = .ok (.iload_n 2, 1) := by decide +kernel
theorem d_M_due_56 : decode c_M_due 56 = .ok (.aload_n 0, 1) := by decide +kernel
theorem d_M_due_57 : decode c_M_due 57 = .ok (.getfield 66, 3) := by decide +kernel
theorem d_M_due_60 : decode c_M_due 60 = .ok (.iload_n 1, 1) := by decide +kernel
theorem d_M_due_61 : decode c_M_due 61 = .ok (.laload, 1) := by decide +kernel
theorem d_M_due_62 : decode c_M_due 62 = .ok (.invokevirtual 210, 3) := by decide +kernel
theorem d_M_due_65 : decode c_M_due 65 = .ok (.goto 9, 3) := by decide +kernel
theorem d_M_due_68 : decode c_M_due 68 = .ok (.aload_n 0, 1) := by decide +kernel
theorem d_M_due_69 : decode c_M_due 69 = .ok (.iload_n 1, 1) := by decide +kernel
theorem d_M_due_70 : decode c_M_due 70 = .ok (.iload_n 2, 1) := by decide +kernel
theorem d_M_due_71 : decode c_M_due 71 = .ok (.invokevirtual 214, 3) := by decide +kernel
theorem d_M_due_74 : decode c_M_due 74 = .ok (.lreturn, 1) := by decide +kernel
theorem d_M_kept_0 : decode c_M_kept 0 = .ok (.aload_n 0, 1) := by decide +kernel
theorem d_M_kept_1 : decode c_M_kept 1 = .ok (.aload_n 0, 1) := by decide +kernel
theorem d_M_kept_2 : decode c_M_kept 2 = .ok (.iload_n 1, 1) := by decide +kernel
theorem d_M_kept_3 : decode c_M_kept 3 = .ok (.invokevirtual 138, 3) := by decide +kernel
theorem d_M_kept_6 : decode c_M_kept 6 = .ok (.ifCond .ne 7, 3) := by decide +kernel
theorem d_M_kept_9 : decode c_M_kept 9 = .ok (.iconst 1, 1) := by decide +kernel
theorem d_M_kept_10 : decode c_M_kept 10 = .ok (.goto 4, 3) := by decide +kernel
theorem d_M_kept_13 : decode c_M_kept 13 = .ok (.iconst 0, 1) := by decide +kernel
theorem d_M_kept_14 : decode c_M_kept 14 = .ok (.iconst 0, 1) := by decide +kernel
theorem d_M_kept_15 : decode c_M_kept 15 = .ok (.invokevirtual 107, 3) := by decide +kernel
theorem d_M_kept_18 : decode c_M_kept 18 = .ok (.ifCond .eq 5, 3) := by decide +kernel
theorem d_M_kept_21 : decode c_M_kept 21 = .ok (.iconst 0, 1) := by decide +kernel
theorem d_M_kept_22 : decode c_M_kept 22 = .ok (.ireturn, 1) := by decide +kernel
theorem d_M_kept_23 : decode c_M_kept 23 = .ok (.aload_n 0, 1) := by decide +kernel
theorem d_M_kept_24 : decode c_M_kept 24 = .ok (.invokevirtual 194, 3) := by decide +kernel
theorem d_M_kept_27 : decode c_M_kept 27 = .ok (.aload_n 0, 1) := by decide +kernel
theorem d_M_kept_28 : decode c_M_kept 28 = .ok (.getfield 60, 3) := by decide +kernel
theorem d_M_kept_31 : decode c_M_kept 31 = .ok (.iload_n 1, 1) := by decide +kernel
theorem d_M_kept_32 : decode c_M_kept 32 = .ok (.laload, 1) := by decide +kernel
theorem d_M_kept_33 : decode c_M_kept 33 = .ok (.l2i, 1) := by decide +kernel
theorem d_M_kept_34 : decode c_M_kept 34 = .ok (.ireturn, 1) := by decide +kernel
theorem d_M_left_0 : decode c_M_left 0 = .ok (.aload_n 0, 1) := by decide +kernel
theorem d_M_left_1 : decode c_M_left 1 = .ok (.aload_n 0, 1) := by decide +kernel
theorem d_M_left_2 : decode c_M_left 2 = .ok (.iload_n 1, 1) := by decide +kernel
theorem d_M_left_3 : decode c_M_left 3 = .ok (.invokevirtual 127, 3) := by decide +kernel
theorem d_M_left_6 : decode c_M_left 6 = .ok (.ifCond .eq 21, 3) := by decide +kernel
theorem d_M_left_9 : decode c_M_left 9 = .ok (.aload_n 0, 1) := by decide +kernel
theorem d_M_left_10 : decode c_M_left 10 = .ok (.iload_n 1, 1) := by decide +kernel
theorem d_M_left_11 : decode c_M_left 11 = .ok (.invokevirtual 144, 3) := by decide +kernel
theorem d_M_left_14 : decode c_M_left 14 = .ok (.iconst 2, 1) := by decide +kernel
theorem d_M_left_15 : decode c_M_left 15 = .ok (.if_icmp .eq 16, 3) := by decide +kernel
theorem d_M_left_18 : decode c_M_left 18 = .ok (.aload_n 0, 1) := by decide +kernel
theorem d_M_left_19 : decode c_M_left 19 = .ok (.iload_n 1, 1) := by decide +kernel
theorem d_M_left_20 : decode c_M_left 20 = .ok (.invokevirtual 144, 3) := by decide +kernel
theorem d_M_left_23 : decode c_M_left 23 = .ok (.iconst 3, 1) := by decide +kernel
theorem d_M_left_24 : decode c_M_left 24 = .ok (.if_icmp .eq 7, 3) := by decide +kernel
theorem d_M_left_27 : decode c_M_left 27 = .ok (.iconst 1, 1) := by decide +kernel
theorem d_M_left_28 : decode c_M_left 28 = .ok (.goto 4, 3) := by decide +kernel
theorem d_M_left_31 : decode c_M_left 31 = .ok (.iconst 0, 1) := by decide +kernel
theorem d_M_left_32 : decode c_M_left 32 = .ok (.iconst 0, 1) := by decide +kernel
theorem d_M_left_33 : decode c_M_left 33 = .ok (.invokevirtual 107, 3) := by decide +kernel
theorem d_M_left_36 : decode c_M_left 36 = .ok (.ifCond .eq 5, 3) := by decide +kernel
theorem d_M_left_39 : decode c_M_left 39 = .ok (.lconst 0, 1) := by decide +kernel
theorem d_M_left_40 : decode c_M_left 40 = .ok (.lreturn, 1) := by decide +kernel
theorem d_M_left_41 : decode c_M_left 41 = .ok (.aload_n 0, 1) := by decide +kernel
theorem d_M_left_42 : decode c_M_left 42 = .ok (.invokevirtual 194, 3) := by decide +kernel
theorem d_M_left_45 : decode c_M_left 45 = .ok (.aload_n 0, 1) := by decide +kernel
theorem d_M_left_46 : decode c_M_left 46 = .ok (.getfield 41, 3) := by decide +kernel
theorem d_M_left_49 : decode c_M_left 49 = .ok (.iload_n 1, 1) := by decide +kernel
theorem d_M_left_50 : decode c_M_left 50 = .ok (.iaload, 1) := by decide +kernel
theorem d_M_left_51 : decode c_M_left 51 = .ok (.i2l, 1) := by decide +kernel
theorem d_M_left_52 : decode c_M_left 52 = .ok (.iconst 1, 1) := by decide +kernel
theorem d_M_left_53 : decode c_M_left 53 = .ok (.aload_n 0, 1) := by decide +kernel
theorem d_M_left_54 : decode c_M_left 54 = .ok (.getfield 44, 3) := by decide +kernel
theorem d_M_left_57 : decode c_M_left 57 = .ok (.iload_n 1, 1) := by decide +kernel
theorem d_M_left_58 : decode c_M_left 58 = .ok (.iaload, 1) := by decide +kernel
theorem d_M_left_59 : decode c_M_left 59 = .ok (.iadd, 1) := by decide +kernel
theorem d_M_left_60 : decode c_M_left 60 = .ok (.i2l, 1) := by decide +kernel
theorem d_M_left_61 : decode c_M_left 61 = .ok (.lmul, 1) := by decide +kernel
theorem d_M_left_62 : decode c_M_left 62 = .ok (.aload_n 0, 1) := by decide +kernel
theorem d_M_left_63 : decode c_M_left 63 = .ok (.getfield 66, 3) := by decide +kernel
theorem d_M_left_66 : decode c_M_left 66 = .ok (.iload_n 1, 1) := by decide +kernel
theorem d_M_left_67 : decode c_M_left 67 = .ok (.laload, 1) := by decide +kernel
theorem d_M_left_68 : decode c_M_left 68 = .ok (.lsub, 1) := by decide +kernel
theorem d_M_left_69 : decode c_M_left 69 = .ok (.lreturn, 1) := by decide +kernel
theorem d_M_total_0 : decode c_M_total 0 = .ok (.aload_n 0, 1) := by decide +kernel
theorem d_M_total_1 : decode c_M_total 1 = .ok (.aload_n 0, 1) := by decide +kernel
theorem d_M_total_2 : decode c_M_total 2 = .ok (.iload_n 1, 1) := by decide +kernel
theorem d_M_total_3 : decode c_M_total 3 = .ok (.invokevirtual 127, 3) := by decide +kernel
theorem d_M_total_6 : decode c_M_total 6 = .ok (.ifCond .eq 15, 3) := by decide +kernel
theorem d_M_total_9 : decode c_M_total 9 = .ok (.iload_n 2, 1) := by decide +kernel
theorem d_M_total_10 : decode c_M_total 10 = .ok (.i2l, 1) := by decide +kernel
theorem d_M_total_11 : decode c_M_total 11 = .ok (.lconst 0, 1) := by decide +kernel
theorem d_M_total_12 : decode c_M_total 12 = .ok (.ldc2_w 105, 3) := by decide +kernel
theorem d_M_total_15 : decode c_M_total 15 = .ok (.invokestatic 93, 3) := by decide +kernel
theorem d_M_total_18 : decode c_M_total 18 = .ok (.ifCond .ne 7, 3) := by decide +kernel
theorem d_M_total_21 : decode c_M_total 21 = .ok (.iconst 1, 1) := by decide +kernel
theorem d_M_total_22 : decode c_M_total 22 = .ok (.goto 4, 3) := by decide +kernel
theorem d_M_total_25 : decode c_M_total 25 = .ok (.iconst 0, 1) := by decide +kernel
theorem d_M_total_26 : decode c_M_total 26 = .ok (.iconst 0, 1) := by decide +kernel
theorem d_M_total_27 : decode c_M_total 27 = .ok (.invokevirtual 107, 3) := by decide +kernel
theorem d_M_total_30 : decode c_M_total 30 = .ok (.ifCond .eq 5, 3) := by decide +kernel
theorem d_M_total_33 : decode c_M_total 33 = .ok (.lconst 0, 1) := by decide +kernel
theorem d_M_total_34 : decode c_M_total 34 = .ok (.lreturn, 1) := by decide +kernel
theorem d_M_total_35 : decode c_M_total 35 = .ok (.aload_n 0, 1) := by decide +kernel
theorem d_M_total_36 : decode c_M_total 36 = .ok (.invokevirtual 194, 3) := by decide +kernel
theorem d_M_total_39 : decode c_M_total 39 = .ok (.iload_n 2, 1) := by decide +kernel
theorem d_M_total_40 : decode c_M_total 40 = .ok (.ifCond .ne 12, 3) := by decide +kernel
theorem d_M_total_43 : decode c_M_total 43 = .ok (.aload_n 0, 1) := by decide +kernel
theorem d_M_total_44 : decode c_M_total 44 = .ok (.getfield 66, 3) := by decide +kernel
theorem d_M_total_47 : decode c_M_total 47 = .ok (.iload_n 1, 1) := by decide +kernel
theorem d_M_total_48 : decode c_M_total 48 = .ok (.laload, 1) := by decide +kernel
theorem d_M_total_49 : decode c_M_total 49 = .ok (.goto 35, 3) := by decide +kernel
theorem d_M_total_52 : decode c_M_total 52 = .ok (.iload_n 2, 1) := by decide +kernel
theorem d_M_total_53 : decode c_M_total 53 = .ok (.iconst 1, 1) := by decide +kernel
theorem d_M_total_54 : decode c_M_total 54 = .ok (.if_icmp .ne 12, 3) := by decide +kernel
theorem d_M_total_57 : decode c_M_total 57 = .ok (.aload_n 0, 1) := by decide +kernel
theorem d_M_total_58 : decode c_M_total 58 = .ok (.getfield 69, 3) := by decide +kernel
theorem d_M_total_61 : decode c_M_total 61 = .ok (.iload_n 1, 1) := by decide +kernel
theorem d_M_total_62 : decode c_M_total 62 = .ok (.laload, 1) := by decide +kernel
theorem d_M_total_63 : decode c_M_total 63 = .ok (.goto 21, 3) := by decide +kernel
theorem d_M_total_66 : decode c_M_total 66 = .ok (.iload_n 2, 1) := by decide +kernel
theorem d_M_total_67 : decode c_M_total 67 = .ok (.iconst 2, 1) := by decide +kernel
theorem d_M_total_68 : decode c_M_total 68 = .ok (.if_icmp .ne 11, 3) := by decide +kernel
theorem d_M_total_71 : decode c_M_total 71 = .ok (.aload_n 0, 1) := by decide +kernel
theorem d_M_total_72 : decode c_M_total 72 = .ok (.iload_n 1, 1) := by decide +kernel
theorem d_M_total_73 : decode c_M_total 73 = .ok (.invokevirtual 199, 3) := by decide +kernel
theorem d_M_total_76 : decode c_M_total 76 = .ok (.goto 8, 3) := by decide +kernel
theorem d_M_total_79 : decode c_M_total 79 = .ok (.aload_n 0, 1) := by decide +kernel
theorem d_M_total_80 : decode c_M_total 80 = .ok (.iload_n 1, 1) := by decide +kernel
theorem d_M_total_81 : decode c_M_total 81 = .ok (.invokevirtual 207, 3) := by decide +kernel
theorem d_M_total_84 : decode c_M_total 84 = .ok (.lreturn, 1) := by decide +kernel
theorem d_M_whatIf_0 : decode c_M_whatIf 0 = .ok (.aload_n 0, 1) := by decide +kernel
theorem d_M_whatIf_1 : decode c_M_whatIf 1 = .ok (.iload_n 1, 1) := by decide +kernel
theorem d_M_whatIf_2 : decode c_M_whatIf 2 = .ok (.invokevirtual 138, 3) := by decide +kernel
theorem d_M_whatIf_5 : decode c_M_whatIf 5 = .ok (.ifCond .eq 23, 3) := by decide +kernel
theorem d_M_whatIf_8 : decode c_M_whatIf 8 = .ok (.iload_n 2, 1) := by decide +kernel
theorem d_M_whatIf_9 : decode c_M_whatIf 9 = .ok (.i2l, 1) := by decide +kernel
theorem d_M_whatIf_10 : decode c_M_whatIf 10 = .ok (.lconst 0, 1) := by decide +kernel
theorem d_M_whatIf_11 : decode c_M_whatIf 11 = .ok (.ldc2_w 103, 3) := by decide +kernel
theorem d_M_whatIf_14 : decode c_M_whatIf 14 = .ok (.invokestatic 93, 3) := by decide +kernel
theorem d_M_whatIf_17 : decode c_M_whatIf 17 = .ok (.ifCond .eq 11, 3) := by decide +kernel
theorem d_M_whatIf_20 : decode c_M_whatIf 20 = .ok (.aload_n 0, 1) := by decide +kernel
theorem d_M_whatIf_21 : decode c_M_whatIf 21 = .ok (.iload_n 3, 1) := by decide +kernel
theorem d_M_whatIf_22 : decode c_M_whatIf 22 = .ok (.invokevirtual 127, 3) := by decide +kernel
theorem d_M_whatIf_25 : decode c_M_whatIf 25 = .ok (.ifCond .ne 7, 3) := by decide +kernel
theorem d_M_whatIf_28 : decode c_M_whatIf 28 = .ok (.iconst 1, 1) := by decide +kernel
theorem d_M_whatIf_29 : decode c_M_whatIf 29 = .ok (.goto 4, 3) := by decide +kernel
theorem d_M_whatIf_32 : decode c_M_whatIf 32 = .ok (.iconst 0, 1) := by decide +kernel
theorem d_M_whatIf_33 : decode c_M_whatIf 33 = .ok (.istore 4, 2) := by decide +kernel
theorem d_M_whatIf_35 : decode c_M_whatIf 35 = .ok (.aload_n 0, 1) := by decide +kernel
theorem d_M_whatIf_36 : decode c_M_whatIf 36 = .ok (.iload 4, 2) := by decide +kernel
theorem d_M_whatIf_38 : decode c_M_whatIf 38 = .ok (.iload 4, 2) := by decide +kernel
theorem d_M_whatIf_40 : decode c_M_whatIf 40 = .ok (.ifCond .ne 16, 3) := by decide +kernel
theorem d_M_whatIf_43 : decode c_M_whatIf 43 = .ok (.aload_n 0, 1) := by decide +kernel
theorem d_M_whatIf_44 : decode c_M_whatIf 44 = .ok (.getfield 31, 3) := by decide +kernel
theorem d_M_whatIf_47 : decode c_M_whatIf 47 = .ok (.iload_n 1, 1) := by decide +kernel
theorem d_M_whatIf_48 : decode c_M_whatIf 48 = .ok (.baload, 1) := by decide +kernel
theorem d_M_whatIf_49 : decode c_M_whatIf 49 = .ok (.ifCond .eq 7, 3) := by decide +kernel
theorem d_M_whatIf_52 : decode c_M_whatIf 52 = .ok (.iconst 1, 1) := by decide +kernel
theorem d_M_whatIf_53 : decode c_M_whatIf 53 = .ok (.goto 4, 3) := by decide +kernel
theorem d_M_whatIf_56 : decode c_M_whatIf 56 = .ok (.iconst 0, 1) := by decide +kernel
theorem d_M_whatIf_57 : decode c_M_whatIf 57 = .ok (.invokevirtual 107, 3) := by decide +kernel
theorem d_M_whatIf_60 : decode c_M_whatIf 60 = .ok (.ifCond .eq 5, 3) := by decide +kernel
theorem d_M_whatIf_63 : decode c_M_whatIf 63 = .ok (.iconst 0, 1) := by decide +kernel
theorem d_M_whatIf_64 : decode c_M_whatIf 64 = .ok (.ireturn, 1) := by decide +kernel
theorem d_M_whatIf_65 : decode c_M_whatIf 65 = .ok (.aload_n 0, 1) := by decide +kernel
theorem d_M_whatIf_66 : decode c_M_whatIf 66 = .ok (.getfield 28, 3) := by decide +kernel
theorem d_M_whatIf_69 : decode c_M_whatIf 69 = .ok (.iload_n 1, 1) := by decide +kernel
theorem d_M_whatIf_70 : decode c_M_whatIf 70 = .ok (.iaload, 1) := by decide +kernel
theorem d_M_whatIf_71 : decode c_M_whatIf 71 = .ok (.istore 5, 2) := by decide +kernel
theorem d_M_whatIf_73 : decode c_M_whatIf 73 = .ok (.aload_n 0, 1) := by decide +kernel
theorem d_M_whatIf_74 : decode c_M_whatIf 74 = .ok (.getfield 28, 3) := by decide +kernel
theorem d_M_whatIf_77 : decode c_M_whatIf 77 = .ok (.iload_n 1, 1) := by decide +kernel
theorem d_M_whatIf_78 : decode c_M_whatIf 78 = .ok (.iload_n 2, 1) := by decide +kernel
theorem d_M_whatIf_79 : decode c_M_whatIf 79 = .ok (.iastore, 1) := by decide +kernel
theorem d_M_whatIf_80 : decode c_M_whatIf 80 = .ok (.aload_n 0, 1) := by decide +kernel
theorem d_M_whatIf_81 : decode c_M_whatIf 81 = .ok (.invokevirtual 194, 3) := by decide +kernel
theorem d_M_whatIf_84 : decode c_M_whatIf 84 = .ok (.aload_n 0, 1) := by decide +kernel
theorem d_M_whatIf_85 : decode c_M_whatIf 85 = .ok (.getfield 28, 3) := by decide +kernel
theorem d_M_whatIf_88 : decode c_M_whatIf 88 = .ok (.iload_n 1, 1) := by decide +kernel
theorem d_M_whatIf_89 : decode c_M_whatIf 89 = .ok (.iload 5, 2) := by decide +kernel
theorem d_M_whatIf_91 : decode c_M_whatIf 91 = .ok (.iastore, 1) := by decide +kernel
theorem d_M_whatIf_92 : decode c_M_whatIf 92 = .ok (.aload_n 0, 1) := by decide +kernel
theorem d_M_whatIf_93 : decode c_M_whatIf 93 = .ok (.getfield 63, 3) := by decide +kernel
theorem d_M_whatIf_96 : decode c_M_whatIf 96 = .ok (.bipush 40, 2) := by decide +kernel
theorem d_M_whatIf_98 : decode c_M_whatIf 98 = .ok (.iload_n 3, 1) := by decide +kernel
theorem d_M_whatIf_99 : decode c_M_whatIf 99 = .ok (.imul, 1) := by decide +kernel
theorem d_M_whatIf_100 : decode c_M_whatIf 100 = .ok (.iload_n 1, 1) := by decide +kernel
theorem d_M_whatIf_101 : decode c_M_whatIf 101 = .ok (.iadd, 1) := by decide +kernel
theorem d_M_whatIf_102 : decode c_M_whatIf 102 = .ok (.laload, 1) := by decide +kernel
theorem d_M_whatIf_103 : decode c_M_whatIf 103 = .ok (.l2i, 1) := by decide +kernel
theorem d_M_whatIf_104 : decode c_M_whatIf 104 = .ok (.ireturn, 1) := by decide +kernel
theorem d_M_window_0 : decode c_M_window 0 = .ok (.aload_n 0, 1) := by decide +kernel
theorem d_M_window_1 : decode c_M_window 1 = .ok (.aload_n 0, 1) := by decide +kernel
theorem d_M_window_2 : decode c_M_window 2 = .ok (.iload_n 1, 1) := by decide +kernel
theorem d_M_window_3 : decode c_M_window 3 = .ok (.invokevirtual 127, 3) := by decide +kernel
theorem d_M_window_6 : decode c_M_window 6 = .ok (.ifCond .eq 24, 3) := by decide +kernel
theorem d_M_window_9 : decode c_M_window 9 = .ok (.aload_n 0, 1) := by decide +kernel
theorem d_M_window_10 : decode c_M_window 10 = .ok (.iload_n 1, 1) := by decide +kernel
theorem d_M_window_11 : decode c_M_window 11 = .ok (.invokevirtual 144, 3) := by decide +kernel
theorem d_M_window_14 : decode c_M_window 14 = .ok (.iconst 3, 1) := by decide +kernel
theorem d_M_window_15 : decode c_M_window 15 = .ok (.if_icmp .ne 15, 3) := by decide +kernel
theorem d_M_window_18 : decode c_M_window 18 = .ok (.iload_n 2, 1) := by decide +kernel
theorem d_M_window_19 : decode c_M_window 19 = .ok (.i2l, 1) := by decide +kernel
theorem d_M_window_20 : decode c_M_window 20 = .ok (.lconst 1, 1) := by decide +kernel
theorem d_M_window_21 : decode c_M_window 21 = .ok (.ldc2_w 134, 3) := by decide +kernel
theorem d_M_window_24 : decode c_M_window 24 = .ok (.invokestatic 93, 3) := by decide +kernel
theorem d_M_window_27 : decode c_M_window 27 = .ok (.ifCond .ne 7, 3) := by decide +kernel
theorem d_M_window_30 : decode c_M_window 30 = .ok (.iconst 1, 1) := by decide +kernel
theorem d_M_window_31 : decode c_M_window 31 = .ok (.goto 4, 3) := by decide +kernel
theorem d_M_window_34 : decode c_M_window 34 = .ok (.iconst 0, 1) := by decide +kernel
theorem d_M_window_35 : decode c_M_window 35 = .ok (.iconst 0, 1) := by decide +kernel
theorem d_M_window_36 : decode c_M_window 36 = .ok (.invokevirtual 107, 3) := by decide +kernel
theorem d_M_window_39 : decode c_M_window 39 = .ok (.ifCond .eq 5, 3) := by decide +kernel
theorem d_M_window_42 : decode c_M_window 42 = .ok (.iconst 0, 1) := by decide +kernel
theorem d_M_window_43 : decode c_M_window 43 = .ok (.ireturn, 1) := by decide +kernel
theorem d_M_window_44 : decode c_M_window 44 = .ok (.aload_n 0, 1) := by decide +kernel
theorem d_M_window_45 : decode c_M_window 45 = .ok (.invokevirtual 194, 3) := by decide +kernel
theorem d_M_window_48 : decode c_M_window 48 = .ok (.aload_n 0, 1) := by decide +kernel
theorem d_M_window_49 : decode c_M_window 49 = .ok (.getfield 72, 3) := by decide +kernel
theorem d_M_window_52 : decode c_M_window 52 = .ok (.bipush 10, 2) := by decide +kernel
theorem d_M_window_54 : decode c_M_window 54 = .ok (.iload_n 1, 1) := by decide +kernel
theorem d_M_window_55 : decode c_M_window 55 = .ok (.imul, 1) := by decide +kernel
theorem d_M_window_56 : decode c_M_window 56 = .ok (.iload_n 2, 1) := by decide +kernel
theorem d_M_window_57 : decode c_M_window 57 = .ok (.iadd, 1) := by decide +kernel
theorem d_M_window_58 : decode c_M_window 58 = .ok (.iaload, 1) := by decide +kernel
theorem d_M_window_59 : decode c_M_window 59 = .ok (.ireturn, 1) := by decide +kernel
