/-! what the bytes say -/
theorem d_D_isAmount_0 : decode c_D_isAmount 0 = .ok (.iload_n 0, 1) := by decide +kernel
theorem d_D_isAmount_1 : decode c_D_isAmount 1 = .ok (.ifCond .lt 13, 3) := by decide +kernel
theorem d_D_isAmount_4 : decode c_D_isAmount 4 = .ok (.iload_n 0, 1) := by decide +kernel
theorem d_D_isAmount_5 : decode c_D_isAmount 5 = .ok (.ldc 51, 2) := by decide +kernel
theorem d_D_isAmount_7 : decode c_D_isAmount 7 = .ok (.if_icmp .gt 7, 3) := by decide +kernel
theorem d_D_isAmount_10 : decode c_D_isAmount 10 = .ok (.iconst 1, 1) := by decide +kernel
theorem d_D_isAmount_11 : decode c_D_isAmount 11 = .ok (.goto 4, 3) := by decide +kernel
theorem d_D_isAmount_14 : decode c_D_isAmount 14 = .ok (.iconst 0, 1) := by decide +kernel
theorem d_D_isAmount_15 : decode c_D_isAmount 15 = .ok (.ireturn, 1) := by decide +kernel
theorem d_D_isBelow_0 : decode c_D_isBelow 0 = .ok (.iload_n 0, 1) := by decide +kernel
theorem d_D_isBelow_1 : decode c_D_isBelow 1 = .ok (.ifCond .lt 12, 3) := by decide +kernel
theorem d_D_isBelow_4 : decode c_D_isBelow 4 = .ok (.iload_n 0, 1) := by decide +kernel
theorem d_D_isBelow_5 : decode c_D_isBelow 5 = .ok (.iload_n 1, 1) := by decide +kernel
theorem d_D_isBelow_6 : decode c_D_isBelow 6 = .ok (.if_icmp .ge 7, 3) := by decide +kernel
theorem d_D_isBelow_9 : decode c_D_isBelow 9 = .ok (.iconst 1, 1) := by decide +kernel
theorem d_D_isBelow_10 : decode c_D_isBelow 10 = .ok (.goto 4, 3) := by decide +kernel
theorem d_D_isBelow_13 : decode c_D_isBelow 13 = .ok (.iconst 0, 1) := by decide +kernel
theorem d_D_isBelow_14 : decode c_D_isBelow 14 = .ok (.ireturn, 1) := by decide +kernel
theorem d_D_isFromOne_0 : decode c_D_isFromOne 0 = .ok (.iload_n 0, 1) := by decide +kernel
theorem d_D_isFromOne_1 : decode c_D_isFromOne 1 = .ok (.iconst 1, 1) := by decide +kernel
theorem d_D_isFromOne_2 : decode c_D_isFromOne 2 = .ok (.if_icmp .lt 12, 3) := by decide +kernel
theorem d_D_isFromOne_5 : decode c_D_isFromOne 5 = .ok (.iload_n 0, 1) := by decide +kernel
theorem d_D_isFromOne_6 : decode c_D_isFromOne 6 = .ok (.iload_n 1, 1) := by decide +kernel
theorem d_D_isFromOne_7 : decode c_D_isFromOne 7 = .ok (.if_icmp .gt 7, 3) := by decide +kernel
theorem d_D_isFromOne_10 : decode c_D_isFromOne 10 = .ok (.iconst 1, 1) := by decide +kernel
theorem d_D_isFromOne_11 : decode c_D_isFromOne 11 = .ok (.goto 4, 3) := by decide +kernel
theorem d_D_isFromOne_14 : decode c_D_isFromOne 14 = .ok (.iconst 0, 1) := by decide +kernel
theorem d_D_isFromOne_15 : decode c_D_isFromOne 15 = .ok (.ireturn, 1) := by decide +kernel
theorem d_D_yearOfClaim_0 : decode c_D_yearOfClaim 0 = .ok (.aload_n 0, 1) := by decide +kernel
theorem d_D_yearOfClaim_1 : decode c_D_yearOfClaim 1 = .ok (.getfield 10, 3) := by decide +kernel
theorem d_D_yearOfClaim_4 : decode c_D_yearOfClaim 4 = .ok (.getfield 75, 3) := by decide +kernel
theorem d_D_yearOfClaim_7 : decode c_D_yearOfClaim 7 = .ok (.aload_n 0, 1) := by decide +kernel
theorem d_D_yearOfClaim_8 : decode c_D_yearOfClaim 8 = .ok (.getfield 19, 3) := by decide +kernel
theorem d_D_yearOfClaim_11 : decode c_D_yearOfClaim 11 = .ok (.getfield 224, 3) := by decide +kernel
theorem d_D_yearOfClaim_14 : decode c_D_yearOfClaim 14 = .ok (.iload_n 1, 1) := by decide +kernel
theorem d_D_yearOfClaim_15 : decode c_D_yearOfClaim 15 = .ok (.iaload, 1) := by decide +kernel
theorem d_D_yearOfClaim_16 : decode c_D_yearOfClaim 16 = .ok (.iaload, 1) := by decide +kernel
theorem d_D_yearOfClaim_17 : decode c_D_yearOfClaim 17 = .ok (.ireturn, 1) := by decide +kernel
theorem d_D_areTerms_0 : decode c_D_areTerms 0 = .ok (.iload_n 0, 1) := by decide +kernel
theorem d_D_areTerms_1 : decode c_D_areTerms 1 = .ok (.tableswitch 136 0 3 #[31, 64, 97, 97], 31) := by decide +kernel
theorem d_D_areTerms_32 : decode c_D_areTerms 32 = .ok (.iload_n 1, 1) := by decide +kernel
theorem d_D_areTerms_33 : decode c_D_areTerms 33 = .ok (.ldc 110, 2) := by decide +kernel
theorem d_D_areTerms_35 : decode c_D_areTerms 35 = .ok (.invokestatic 52, 3) := by decide +kernel
theorem d_D_areTerms_38 : decode c_D_areTerms 38 = .ok (.ifCond .eq 25, 3) := by decide +kernel
theorem d_D_areTerms_41 : decode c_D_areTerms 41 = .ok (.iload_n 2, 1) := by decide +kernel
theorem d_D_areTerms_42 : decode c_D_areTerms 42 = .ok (.ldc 51, 2) := by decide +kernel
theorem d_D_areTerms_44 : decode c_D_areTerms 44 = .ok (.invokestatic 52, 3) := by decide +kernel
theorem d_D_areTerms_47 : decode c_D_areTerms 47 = .ok (.ifCond .eq 16, 3) := by decide +kernel
theorem d_D_areTerms_50 : decode c_D_areTerms 50 = .ok (.iload_n 3, 1) := by decide +kernel
theorem d_D_areTerms_51 : decode c_D_areTerms 51 = .ok (.ifCond .ne 12, 3) := by decide +kernel
theorem d_D_areTerms_54 : decode c_D_areTerms 54 = .ok (.iload 4, 2) := by decide +kernel
theorem d_D_areTerms_56 : decode c_D_areTerms 56 = .ok (.ifCond .ne 7, 3) := by decide +kernel
theorem d_D_areTerms_59 : decode c_D_areTerms 59 = .ok (.iconst 1, 1) := by decide +kernel
theorem d_D_areTerms_60 : decode c_D_areTerms 60 = .ok (.goto 4, 3) := by decide +kernel
theorem d_D_areTerms_63 : decode c_D_areTerms 63 = .ok (.iconst 0, 1) := by decide +kernel
theorem d_D_areTerms_64 : decode c_D_areTerms 64 = .ok (.ireturn, 1) := by decide +kernel
theorem d_D_areTerms_65 : decode c_D_areTerms 65 = .ok (.iload_n 1, 1) := by decide +kernel
theorem d_D_areTerms_66 : decode c_D_areTerms 66 = .ok (.ldc 51, 2) := by decide +kernel
theorem d_D_areTerms_68 : decode c_D_areTerms 68 = .ok (.invokestatic 52, 3) := by decide +kernel
theorem d_D_areTerms_71 : decode c_D_areTerms 71 = .ok (.ifCond .eq 25, 3) := by decide +kernel
theorem d_D_areTerms_74 : decode c_D_areTerms 74 = .ok (.iload_n 2, 1) := by decide +kernel
theorem d_D_areTerms_75 : decode c_D_areTerms 75 = .ok (.bipush 20, 2) := by decide +kernel
theorem d_D_areTerms_77 : decode c_D_areTerms 77 = .ok (.invokestatic 52, 3) := by decide +kernel
theorem d_D_areTerms_80 : decode c_D_areTerms 80 = .ok (.ifCond .eq 16, 3) := by decide +kernel
theorem d_D_areTerms_83 : decode c_D_areTerms 83 = .ok (.iload_n 3, 1) := by decide +kernel
theorem d_D_areTerms_84 : decode c_D_areTerms 84 = .ok (.ifCond .ne 12, 3) := by decide +kernel
theorem d_D_areTerms_87 : decode c_D_areTerms 87 = .ok (.iload 4, 2) := by decide +kernel
theorem d_D_areTerms_89 : decode c_D_areTerms 89 = .ok (.ifCond .ne 7, 3) := by decide +kernel
theorem d_D_areTerms_92 : decode c_D_areTerms 92 = .ok (.iconst 1, 1) := by decide +kernel
theorem d_D_areTerms_93 : decode c_D_areTerms 93 = .ok (.goto 4, 3) := by decide +kernel
theorem d_D_areTerms_96 : decode c_D_areTerms 96 = .ok (.iconst 0, 1) := by decide +kernel
theorem d_D_areTerms_97 : decode c_D_areTerms 97 = .ok (.ireturn, 1) := by decide +kernel
theorem d_D_areTerms_98 : decode c_D_areTerms 98 = .ok (.iload_n 1, 1) := by decide +kernel
theorem d_D_areTerms_99 : decode c_D_areTerms 99 = .ok (.invokestatic 78, 3) := by decide +kernel
theorem d_D_areTerms_102 : decode c_D_areTerms 102 = .ok (.ifCond .eq 33, 3) := by decide +kernel
theorem d_D_areTerms_105 : decode c_D_areTerms 105 = .ok (.iload_n 2, 1) := by decide +kernel
theorem d_D_areTerms_106 : decode c_D_areTerms 106 = .ok (.ldc 51, 2) := by decide +kernel
theorem d_D_areTerms_108 : decode c_D_areTerms 108 = .ok (.invokestatic 52, 3) := by decide +kernel
theorem d_D_areTerms_111 : decode c_D_areTerms 111 = .ok (.ifCond .eq 24, 3) := by decide +kernel
theorem d_D_areTerms_114 : decode c_D_areTerms 114 = .ok (.iload_n 3, 1) := by decide +kernel
theorem d_D_areTerms_115 : decode c_D_areTerms 115 = .ok (.bipush 6, 2) := by decide +kernel
theorem d_D_areTerms_117 : decode c_D_areTerms 117 = .ok (.invokestatic 47, 3) := by decide +kernel
theorem d_D_areTerms_120 : decode c_D_areTerms 120 = .ok (.ifCond .eq 15, 3) := by decide +kernel
theorem d_D_areTerms_123 : decode c_D_areTerms 123 = .ok (.iload 4, 2) := by decide +kernel
theorem d_D_areTerms_125 : decode c_D_areTerms 125 = .ok (.invokestatic 78, 3) := by decide +kernel
theorem d_D_areTerms_128 : decode c_D_areTerms 128 = .ok (.ifCond .eq 7, 3) := by decide +kernel
theorem d_D_areTerms_131 : decode c_D_areTerms 131 = .ok (.iconst 1, 1) := by decide +kernel
theorem d_D_areTerms_132 : decode c_D_areTerms 132 = .ok (.goto 4, 3) := by decide +kernel
theorem d_D_areTerms_135 : decode c_D_areTerms 135 = .ok (.iconst 0, 1) := by decide +kernel
theorem d_D_areTerms_136 : decode c_D_areTerms 136 = .ok (.ireturn, 1) := by decide +kernel
theorem d_D_areTerms_137 : decode c_D_areTerms 137 = .ok (.iload_n 1, 1) := by decide +kernel
theorem d_D_areTerms_138 : decode c_D_areTerms 138 = .ok (.invokestatic 78, 3) := by decide +kernel
theorem d_D_areTerms_141 : decode c_D_areTerms 141 = .ok (.ifCond .eq 25, 3) := by decide +kernel
theorem d_D_areTerms_144 : decode c_D_areTerms 144 = .ok (.iload_n 2, 1) := by decide +kernel
theorem d_D_areTerms_145 : decode c_D_areTerms 145 = .ok (.ldc 51, 2) := by decide +kernel
theorem d_D_areTerms_147 : decode c_D_areTerms 147 = .ok (.invokestatic 52, 3) := by decide +kernel
theorem d_D_areTerms_150 : decode c_D_areTerms 150 = .ok (.ifCond .eq 16, 3) := by decide +kernel
theorem d_D_areTerms_153 : decode c_D_areTerms 153 = .ok (.iload_n 3, 1) := by decide +kernel
theorem d_D_areTerms_154 : decode c_D_areTerms 154 = .ok (.ifCond .ne 12, 3) := by decide +kernel
theorem d_D_areTerms_157 : decode c_D_areTerms 157 = .ok (.iload 4, 2) := by decide +kernel
theorem d_D_areTerms_159 : decode c_D_areTerms 159 = .ok (.ifCond .ne 7, 3) := by decide +kernel
theorem d_D_areTerms_162 : decode c_D_areTerms 162 = .ok (.iconst 1, 1) := by decide +kernel
theorem d_D_areTerms_163 : decode c_D_areTerms 163 = .ok (.goto 4, 3) := by decide +kernel
theorem d_D_areTerms_166 : decode c_D_areTerms 166 = .ok (.iconst 0, 1) := by decide +kernel
theorem d_D_areTerms_167 : decode c_D_areTerms 167 = .ok (.ireturn, 1) := by decide +kernel
theorem d_D_isShape_0 : decode c_D_isShape 0 = .ok (.iload_n 0, 1) := by decide +kernel
theorem d_D_isShape_1 : decode c_D_isShape 1 = .ok (.bipush 50, 2) := by decide +kernel
theorem d_D_isShape_3 : decode c_D_isShape 3 = .ok (.invokestatic 47, 3) := by decide +kernel
theorem d_D_isShape_6 : decode c_D_isShape 6 = .ok (.ifCond .eq 15, 3) := by decide +kernel
theorem d_D_isShape_9 : decode c_D_isShape 9 = .ok (.iload_n 0, 1) := by decide +kernel
theorem d_D_isShape_10 : decode c_D_isShape 10 = .ok (.bipush 10, 2) := by decide +kernel
theorem d_D_isShape_12 : decode c_D_isShape 12 = .ok (.irem, 1) := by decide +kernel
theorem d_D_isShape_13 : decode c_D_isShape 13 = .ok (.iconst 4, 1) := by decide +kernel
theorem d_D_isShape_14 : decode c_D_isShape 14 = .ok (.if_icmp .ge 7, 3) := by decide +kernel
theorem d_D_isShape_17 : decode c_D_isShape 17 = .ok (.iconst 1, 1) := by decide +kernel
theorem d_D_isShape_18 : decode c_D_isShape 18 = .ok (.goto 4, 3) := by decide +kernel
theorem d_D_isShape_21 : decode c_D_isShape 21 = .ok (.iconst 0, 1) := by decide +kernel
theorem d_D_isShape_22 : decode c_D_isShape 22 = .ok (.ireturn, 1) := by decide +kernel
theorem d_D_bill_0 : decode c_D_bill 0 = .ok (.iload_n 1, 1) := by decide +kernel
theorem d_D_bill_1 : decode c_D_bill 1 = .ok (.bipush 6, 2) := by decide +kernel
theorem d_D_bill_3 : decode c_D_bill 3 = .ok (.invokestatic 47, 3) := by decide +kernel
theorem d_D_bill_6 : decode c_D_bill 6 = .ok (.ifCond .ne 13, 3) := by decide +kernel
theorem d_D_bill_9 : decode c_D_bill 9 = .ok (.new 55, 3) := by decide +kernel
theorem d_D_bill_12 : decode c_D_bill 12 = .ok (.dup, 1) := by decide +kernel
theorem d_D_bill_13 : decode c_D_bill 13 = .ok (.ldc 214, 2) := by decide +kernel
theorem d_D_bill_15 : decode c_D_bill 15 = .ok (.invokespecial 59, 3) := by decide +kernel
theorem d_D_bill_18 : decode c_D_bill 18 = .ok (.athrow, 1) := by decide +kernel
theorem d_D_bill_19 : decode c_D_bill 19 = .ok (.lconst 0, 1) := by decide +kernel
theorem d_D_bill_20 : decode c_D_bill 20 = .ok (.lstore_n 2, 1) := by decide +kernel
theorem d_D_bill_21 : decode c_D_bill 21 = .ok (.iconst 0, 1) := by decide +kernel
theorem d_D_bill_22 : decode c_D_bill 22 = .ok (.istore 4, 2) := by decide +kernel
theorem d_D_bill_24 : decode c_D_bill 24 = .ok (.iload 4, 2) := by decide +kernel
theorem d_D_bill_26 : decode c_D_bill 26 = .ok (.iconst 4, 1) := by decide +kernel
theorem d_D_bill_27 : decode c_D_bill 27 = .ok (.if_icmp .ge 41, 3) := by decide +kernel
theorem d_D_bill_30 : decode c_D_bill 30 = .ok (.aload_n 0, 1) := by decide +kernel
theorem d_D_bill_31 : decode c_D_bill 31 = .ok (.getfield 39, 3) := by decide +kernel
theorem d_D_bill_34 : decode c_D_bill 34 = .ok (.iload 4, 2) := by decide +kernel
theorem d_D_bill_36 : decode c_D_bill 36 = .ok (.baload, 1) := by decide +kernel
theorem d_D_bill_37 : decode c_D_bill 37 = .ok (.ifCond .ne 25, 3) := by decide +kernel
theorem d_D_bill_40 : decode c_D_bill 40 = .ok (.aload_n 0, 1) := by decide +kernel
theorem d_D_bill_41 : decode c_D_bill 41 = .ok (.getfield 35, 3) := by decide +kernel
theorem d_D_bill_44 : decode c_D_bill 44 = .ok (.iload 4, 2) := by decide +kernel
theorem d_D_bill_46 : decode c_D_bill 46 = .ok (.invokevirtual 154, 3) := by decide +kernel
theorem d_D_bill_49 : decode c_D_bill 49 = .ok (.lload_n 2, 1) := by decide +kernel
theorem d_D_bill_50 : decode c_D_bill 50 = .ok (.aload_n 0, 1) := by decide +kernel
theorem d_D_bill_51 : decode c_D_bill 51 = .ok (.getfield 35, 3) := by decide +kernel
theorem d_D_bill_54 : decode c_D_bill 54 = .ok (.iload_n 1, 1) := by decide +kernel
theorem d_D_bill_55 : decode c_D_bill 55 = .ok (.iload 4, 2) := by decide +kernel
theorem d_D_bill_57 : decode c_D_bill 57 = .ok (.invokevirtual 216, 3) := by decide +kernel
theorem d_D_bill_60 : decode c_D_bill 60 = .ok (.ladd, 1) := by decide +kernel
theorem d_D_bill_61 : decode c_D_bill 61 = .ok (.lstore_n 2, 1) := by decide +kernel
theorem d_D_bill_62 : decode c_D_bill 62 = .ok (.iinc 4 1, 3) := by decide +kernel
theorem d_D_bill_65 : decode c_D_bill 65 = .ok (.goto (-41), 3) := by decide +kernel
theorem d_D_bill_68 : decode c_D_bill 68 = .ok (.lload_n 2, 1) := by decide +kernel
theorem d_D_bill_69 : decode c_D_bill 69 = .ok (.aload_n 0, 1) := by decide +kernel
theorem d_D_bill_70 : decode c_D_bill 70 = .ok (.getfield 43, 3) := by decide +kernel
theorem d_D_bill_73 : decode c_D_bill 73 = .ok (.iload_n 1, 1) := by decide +kernel
theorem d_D_bill_74 : decode c_D_bill 74 = .ok (.laload, 1) := by decide +kernel
theorem d_D_bill_75 : decode c_D_bill 75 = .ok (.lsub, 1) := by decide +kernel
theorem d_D_bill_76 : decode c_D_bill 76 = .ok (.lstore 4, 2) := by decide +kernel
theorem d_D_bill_78 : decode c_D_bill 78 = .ok (.aload_n 0, 1) := by decide +kernel
theorem d_D_bill_79 : decode c_D_bill 79 = .ok (.getfield 43, 3) := by decide +kernel
theorem d_D_bill_82 : decode c_D_bill 82 = .ok (.iload_n 1, 1) := by decide +kernel
theorem d_D_bill_83 : decode c_D_bill 83 = .ok (.lload_n 2, 1) := by decide +kernel
theorem d_D_bill_84 : decode c_D_bill 84 = .ok (.lastore, 1) := by decide +kernel
theorem d_D_bill_85 : decode c_D_bill 85 = .ok (.lload 4, 2) := by decide +kernel
theorem d_D_bill_87 : decode c_D_bill 87 = .ok (.lreturn, 1) := by decide +kernel
theorem d_D_ceded_0 : decode c_D_ceded 0 = .ok (.aload_n 0, 1) := by decide +kernel
theorem d_D_ceded_1 : decode c_D_ceded 1 = .ok (.getfield 19, 3) := by decide +kernel
theorem d_D_ceded_4 : decode c_D_ceded 4 = .ok (.iload_n 1, 1) := by decide +kernel
theorem d_D_ceded_5 : decode c_D_ceded 5 = .ok (.invokevirtual 132, 3) := by decide +kernel
theorem d_D_ceded_8 : decode c_D_ceded 8 = .ok (.ifCond .eq 14, 3) := by decide +kernel
theorem d_D_ceded_11 : decode c_D_ceded 11 = .ok (.aload_n 0, 1) := by decide +kernel
theorem d_D_ceded_12 : decode c_D_ceded 12 = .ok (.getfield 26, 3) := by decide +kernel
theorem d_D_ceded_15 : decode c_D_ceded 15 = .ok (.iload_n 2, 1) := by decide +kernel
theorem d_D_ceded_16 : decode c_D_ceded 16 = .ok (.invokevirtual 107, 3) := by decide +kernel
theorem d_D_ceded_19 : decode c_D_ceded 19 = .ok (.ifCond .ne 13, 3) := by decide +kernel
theorem d_D_ceded_22 : decode c_D_ceded 22 = .ok (.new 55, 3) := by decide +kernel
theorem d_D_ceded_25 : decode c_D_ceded 25 = .ok (.dup, 1) := by decide +kernel
theorem d_D_ceded_26 : decode c_D_ceded 26 = .ok (.ldc 161, 2) := by decide +kernel
theorem d_D_ceded_28 : decode c_D_ceded 28 = .ok (.invokespecial 59, 3) := by decide +kernel
theorem d_D_ceded_31 : decode c_D_ceded 31 = .ok (.athrow, 1) := by decide +kernel
theorem d_D_ceded_32 : decode c_D_ceded 32 = .ok (.aload_n 0, 1) := by decide +kernel
theorem d_D_ceded_33 : decode c_D_ceded 33 = .ok (.getfield 35, 3) := by decide +kernel
theorem d_D_ceded_36 : decode c_D_ceded 36 = .ok (.aload_n 0, 1) := by decide +kernel
theorem d_D_ceded_37 : decode c_D_ceded 37 = .ok (.iload_n 1, 1) := by decide +kernel
theorem d_D_ceded_38 : decode c_D_ceded 38 = .ok (.invokevirtual 138, 3) := by decide +kernel
theorem d_D_ceded_41 : decode c_D_ceded 41 = .ok (.invokevirtual 154, 3) := by decide +kernel
theorem d_D_ceded_44 : decode c_D_ceded 44 = .ok (.aload_n 0, 1) := by decide +kernel
theorem d_D_ceded_45 : decode c_D_ceded 45 = .ok (.getfield 35, 3) := by decide +kernel
theorem d_D_ceded_48 : decode c_D_ceded 48 = .ok (.getfield 163, 3) := by decide +kernel
theorem d_D_ceded_51 : decode c_D_ceded 51 = .ok (.iload_n 2, 1) := by decide +kernel
theorem d_D_ceded_52 : decode c_D_ceded 52 = .ok (.bipush 40, 2) := by decide +kernel
theorem d_D_ceded_54 : decode c_D_ceded 54 = .ok (.imul, 1) := by decide +kernel
theorem d_D_ceded_55 : decode c_D_ceded 55 = .ok (.iload_n 1, 1) := by decide +kernel
theorem d_D_ceded_56 : decode c_D_ceded 56 = .ok (.iadd, 1) := by decide +kernel
theorem d_D_ceded_57 : decode c_D_ceded 57 = .ok (.iaload, 1) := by decide +kernel
theorem d_D_ceded_58 : decode c_D_ceded 58 = .ok (.ireturn, 1) := by decide +kernel
theorem d_D_claim_0 : decode c_D_claim 0 = .ok (.aload_n 0, 1) := by decide +kernel
theorem d_D_claim_1 : decode c_D_claim 1 = .ok (.getfield 10, 3) := by decide +kernel
theorem d_D_claim_4 : decode c_D_claim 4 = .ok (.iload_n 1, 1) := by decide +kernel
theorem d_D_claim_5 : decode c_D_claim 5 = .ok (.invokevirtual 62, 3) := by decide +kernel
theorem d_D_claim_8 : decode c_D_claim 8 = .ok (.ifCond .eq 22, 3) := by decide +kernel
theorem d_D_claim_11 : decode c_D_claim 11 = .ok (.iload_n 2, 1) := by decide +kernel
theorem d_D_claim_12 : decode c_D_claim 12 = .ok (.bipush 10, 2) := by decide +kernel
theorem d_D_claim_14 : decode c_D_claim 14 = .ok (.invokestatic 47, 3) := by decide +kernel
theorem d_D_claim_17 : decode c_D_claim 17 = .ok (.ifCond .eq 13, 3) := by decide +kernel
theorem d_D_claim_20 : decode c_D_claim 20 = .ok (.iload_n 3, 1) := by decide +kernel
theorem d_D_claim_21 : decode c_D_claim 21 = .ok (.ifCond .lt 9, 3) := by decide +kernel
theorem d_D_claim_24 : decode c_D_claim 24 = .ok (.iload_n 3, 1) := by decide +kernel
theorem d_D_claim_25 : decode c_D_claim 25 = .ok (.ldc 123, 2) := by decide +kernel
theorem d_D_claim_27 : decode c_D_claim 27 = .ok (.if_icmp .le 13, 3) := by decide +kernel
theorem d_D_claim_30 : decode c_D_claim 30 = .ok (.new 55, 3) := by decide +kernel
theorem d_D_claim_33 : decode c_D_claim 33 = .ok (.dup, 1) := by decide +kernel
theorem d_D_claim_34 : decode c_D_claim 34 = .ok (.ldc 124, 2) := by decide +kernel
theorem d_D_claim_36 : decode c_D_claim 36 = .ok (.invokespecial 59, 3) := by decide +kernel
theorem d_D_claim_39 : decode c_D_claim 39 = .ok (.athrow, 1) := by decide +kernel
theorem d_D_claim_40 : decode c_D_claim 40 = .ok (.aload_n 0, 1) := by decide +kernel
theorem d_D_claim_41 : decode c_D_claim 41 = .ok (.getfield 19, 3) := by decide +kernel
theorem d_D_claim_44 : decode c_D_claim 44 = .ok (.getfield 126, 3) := by decide +kernel
theorem d_D_claim_47 : decode c_D_claim 47 = .ok (.bipush 40, 2) := by decide +kernel
theorem d_D_claim_49 : decode c_D_claim 49 = .ok (.if_icmp .ge 20, 3) := by decide +kernel
theorem d_D_claim_52 : decode c_D_claim 52 = .ok (.aload_n 0, 1) := by decide +kernel
theorem d_D_claim_53 : decode c_D_claim 53 = .ok (.getfield 39, 3) := by decide +kernel
theorem d_D_claim_56 : decode c_D_claim 56 = .ok (.aload_n 0, 1) := by decide +kernel
theorem d_D_claim_57 : decode c_D_claim 57 = .ok (.getfield 10, 3) := by decide +kernel
theorem d_D_claim_60 : decode c_D_claim 60 = .ok (.getfield 75, 3) := by decide +kernel
theorem d_D_claim_63 : decode c_D_claim 63 = .ok (.iload_n 1, 1) := by decide +kernel
theorem d_D_claim_64 : decode c_D_claim 64 = .ok (.iaload, 1) := by decide +kernel
theorem d_D_claim_65 : decode c_D_claim 65 = .ok (.baload, 1) := by decide +kernel
theorem d_D_claim_66 : decode c_D_claim 66 = .ok (.ifCond .eq 13, 3) := by decide +kernel
theorem d_D_claim_69 : decode c_D_claim 69 = .ok (.new 66, 3) := by decide +kernel
theorem d_D_claim_72 : decode c_D_claim 72 = .ok (.dup, 1) := by decide +kernel
theorem d_D_claim_73 : decode c_D_claim 73 = .ok (.ldc 127, 2) := by decide +kernel
theorem d_D_claim_75 : decode c_D_claim 75 = .ok (.invokespecial 70, 3) := by decide +kernel
theorem d_D_claim_78 : decode c_D_claim 78 = .ok (.athrow, 1) := by decide +kernel
theorem d_D_claim_79 : decode c_D_claim 79 = .ok (.aload_n 0, 1) := by decide +kernel
theorem d_D_claim_80 : decode c_D_claim 80 = .ok (.getfield 19, 3) := by decide +kernel
theorem d_D_claim_83 : decode c_D_claim 83 = .ok (.iload_n 1, 1) := by decide +kernel
theorem d_D_claim_84 : decode c_D_claim 84 = .ok (.iload_n 2, 1) := by decide +kernel
theorem d_D_claim_85 : decode c_D_claim 85 = .ok (.iload_n 3, 1) := by decide +kernel
theorem d_D_claim_86 : decode c_D_claim 86 = .ok (.invokevirtual 129, 3) := by decide +kernel
theorem d_D_claim_89 : decode c_D_claim 89 = .ok (.ireturn, 1) := by decide +kernel
theorem d_D_dissolve_0 : decode c_D_dissolve 0 = .ok (.iload_n 1, 1) := by decide +kernel
theorem d_D_dissolve_1 : decode c_D_dissolve 1 = .ok (.bipush 9, 2) := by decide +kernel
theorem d_D_dissolve_3 : decode c_D_dissolve 3 = .ok (.invokestatic 52, 3) := by decide +kernel
theorem d_D_dissolve_6 : decode c_D_dissolve 6 = .ok (.ifCond .eq 11, 3) := by decide +kernel
theorem d_D_dissolve_9 : decode c_D_dissolve 9 = .ok (.iload_n 2, 1) := by decide +kernel
theorem d_D_dissolve_10 : decode c_D_dissolve 10 = .ok (.iconst 4, 1) := by decide +kernel
theorem d_D_dissolve_11 : decode c_D_dissolve 11 = .ok (.invokestatic 47, 3) := by decide +kernel
theorem d_D_dissolve_14 : decode c_D_dissolve 14 = .ok (.ifCond .ne 13, 3) := by decide +kernel
theorem d_D_dissolve_17 : decode c_D_dissolve 17 = .ok (.new 55, 3) := by decide +kernel
theorem d_D_dissolve_20 : decode c_D_dissolve 20 = .ok (.dup, 1) := by decide +kernel
theorem d_D_dissolve_21 : decode c_D_dissolve 21 = .ok (.ldc 149, 2) := by decide +kernel
theorem d_D_dissolve_23 : decode c_D_dissolve 23 = .ok (.invokespecial 59, 3) := by decide +kernel
theorem d_D_dissolve_26 : decode c_D_dissolve 26 = .ok (.athrow, 1) := by decide +kernel
theorem d_D_dissolve_27 : decode c_D_dissolve 27 = .ok (.aload_n 0, 1) := by decide +kernel
theorem d_D_dissolve_28 : decode c_D_dissolve 28 = .ok (.getfield 39, 3) := by decide +kernel
theorem d_D_dissolve_31 : decode c_D_dissolve 31 = .ok (.iload_n 2, 1) := by decide +kernel
theorem d_D_dissolve_32 : decode c_D_dissolve 32 = .ok (.baload, 1) := by decide +kernel
theorem d_D_dissolve_33 : decode c_D_dissolve 33 = .ok (.ifCond .eq 13, 3) := by decide +kernel
theorem d_D_dissolve_36 : decode c_D_dissolve 36 = .ok (.new 66, 3) := by decide +kernel
theorem d_D_dissolve_39 : decode c_D_dissolve 39 = .ok (.dup, 1) := by decide +kernel
theorem d_D_dissolve_40 : decode c_D_dissolve 40 = .ok (.ldc 83, 2) := by decide +kernel
theorem d_D_dissolve_42 : decode c_D_dissolve 42 = .ok (.invokespecial 70, 3) := by decide +kernel
theorem d_D_dissolve_45 : decode c_D_dissolve 45 = .ok (.athrow, 1) := by decide +kernel
theorem d_D_dissolve_46 : decode c_D_dissolve 46 = .ok (.iconst 0, 1) := by decide +kernel
theorem d_D_dissolve_47 : decode c_D_dissolve 47 = .ok (.istore_n 3, 1) := by decide +kernel
theorem d_D_dissolve_48 : decode c_D_dissolve 48 = .ok (.iconst 0, 1) := by decide +kernel
theorem d_D_dissolve_49 : decode c_D_dissolve 49 = .ok (.istore 4, 2) := by decide +kernel
theorem d_D_dissolve_51 : decode c_D_dissolve 51 = .ok (.iload 4, 2) := by decide +kernel
theorem d_D_dissolve_53 : decode c_D_dissolve 53 = .ok (.aload_n 0, 1) := by decide +kernel
theorem d_D_dissolve_54 : decode c_D_dissolve 54 = .ok (.getfield 19, 3) := by decide +kernel
theorem d_D_dissolve_57 : decode c_D_dissolve 57 = .ok (.getfield 126, 3) := by decide +kernel
theorem d_D_dissolve_60 : decode c_D_dissolve 60 = .ok (.if_icmp .ge 60, 3) := by decide +kernel
theorem d_D_dissolve_63 : decode c_D_dissolve 63 = .ok (.aload_n 0, 1) := by decide +kernel
theorem d_D_dissolve_64 : decode c_D_dissolve 64 = .ok (.getfield 19, 3) := by decide +kernel
theorem d_D_dissolve_67 : decode c_D_dissolve 67 = .ok (.getfield 151, 3) := by decide +kernel
theorem d_D_dissolve_70 : decode c_D_dissolve 70 = .ok (.iload 4, 2) := by decide +kernel
theorem d_D_dissolve_72 : decode c_D_dissolve 72 = .ok (.iaload, 1) := by decide +kernel
theorem d_D_dissolve_73 : decode c_D_dissolve 73 = .ok (.iload_n 1, 1) := by decide +kernel
theorem d_D_dissolve_74 : decode c_D_dissolve 74 = .ok (.if_icmp .ne 40, 3) := by decide +kernel
theorem d_D_dissolve_77 : decode c_D_dissolve 77 = .ok (.aload_n 0, 1) := by decide +kernel
theorem d_D_dissolve_78 : decode c_D_dissolve 78 = .ok (.getfield 19, 3) := by decide +kernel
theorem d_D_dissolve_81 : decode c_D_dissolve 81 = .ok (.getfield 135, 3) := by decide +kernel
theorem d_D_dissolve_84 : decode c_D_dissolve 84 = .ok (.iload 4, 2) := by decide +kernel
theorem d_D_dissolve_86 : decode c_D_dissolve 86 = .ok (.baload, 1) := by decide +kernel
theorem d_D_dissolve_87 : decode c_D_dissolve 87 = .ok (.ifCond .ne 27, 3) := by decide +kernel
theorem d_D_dissolve_90 : decode c_D_dissolve 90 = .ok (.aload_n 0, 1) := by decide +kernel
theorem d_D_dissolve_91 : decode c_D_dissolve 91 = .ok (.iload 4, 2) := by decide +kernel
theorem d_D_dissolve_93 : decode c_D_dissolve 93 = .ok (.invokevirtual 138, 3) := by decide +kernel
theorem d_D_dissolve_96 : decode c_D_dissolve 96 = .ok (.iload_n 2, 1) := by decide +kernel
theorem d_D_dissolve_97 : decode c_D_dissolve 97 = .ok (.if_icmp .ne 17, 3) := by decide +kernel
theorem d_D_dissolve_100 : decode c_D_dissolve 100 = .ok (.aload_n 0, 1) := by decide +kernel
theorem d_D_dissolve_101 : decode c_D_dissolve 101 = .ok (.getfield 19, 3) := by decide +kernel
theorem d_D_dissolve_104 : decode c_D_dissolve 104 = .ok (.getfield 151, 3) := by decide +kernel
theorem d_D_dissolve_107 : decode c_D_dissolve 107 = .ok (.iload 4, 2) := by decide +kernel
theorem d_D_dissolve_109 : decode c_D_dissolve 109 = .ok (.iconst 0, 1) := by decide +kernel
theorem d_D_dissolve_110 : decode c_D_dissolve 110 = .ok (.iastore, 1) := by decide +kernel
theorem d_D_dissolve_111 : decode c_D_dissolve 111 = .ok (.iinc 3 1, 3) := by decide +kernel
theorem d_D_dissolve_114 : decode c_D_dissolve 114 = .ok (.iinc 4 1, 3) := by decide +kernel
theorem d_D_dissolve_117 : decode c_D_dissolve 117 = .ok (.goto (-66), 3) := by decide +kernel
theorem d_D_dissolve_120 : decode c_D_dissolve 120 = .ok (.iload_n 3, 1) := by decide +kernel
theorem d_D_dissolve_121 : decode c_D_dissolve 121 = .ok (.ireturn, 1) := by decide +kernel
theorem d_D_due_0 : decode c_D_due 0 = .ok (.aload_n 0, 1) := by decide +kernel
theorem d_D_due_1 : decode c_D_due 1 = .ok (.getfield 26, 3) := by decide +kernel
theorem d_D_due_4 : decode c_D_due 4 = .ok (.iload_n 1, 1) := by decide +kernel
theorem d_D_due_5 : decode c_D_due 5 = .ok (.invokevirtual 107, 3) := by decide +kernel
theorem d_D_due_8 : decode c_D_due 8 = .ok (.ifCond .eq 21, 3) := by decide +kernel
theorem d_D_due_11 : decode c_D_due 11 = .ok (.iload_n 2, 1) := by decide +kernel
theorem d_D_due_12 : decode c_D_due 12 = .ok (.bipush 6, 2) := by decide +kernel
theorem d_D_due_14 : decode c_D_due 14 = .ok (.invokestatic 47, 3) := by decide +kernel
theorem d_D_due_17 : decode c_D_due 17 = .ok (.ifCond .eq 12, 3) := by decide +kernel
theorem d_D_due_20 : decode c_D_due 20 = .ok (.iload_n 3, 1) := by decide +kernel
theorem d_D_due_21 : decode c_D_due 21 = .ok (.ifCond .lt 8, 3) := by decide +kernel
theorem d_D_due_24 : decode c_D_due 24 = .ok (.iload_n 3, 1) := by decide +kernel
theorem d_D_due_25 : decode c_D_due 25 = .ok (.iconst 1, 1) := by decide +kernel
theorem d_D_due_26 : decode c_D_due 26 = .ok (.if_icmp .le 13, 3) := by decide +kernel
theorem d_D_due_29 : decode c_D_due 29 = .ok (.new 55, 3) := by decide +kernel
theorem d_D_due_32 : decode c_D_due 32 = .ok (.dup, 1) := by decide +kernel
theorem d_D_due_33 : decode c_D_due 33 = .ok (.ldc 197, 2) := by decide +kernel
theorem d_D_due_35 : decode c_D_due 35 = .ok (.invokespecial 59, 3) := by decide +kernel
theorem d_D_due_38 : decode c_D_due 38 = .ok (.athrow, 1) := by decide +kernel
theorem d_D_due_39 : decode c_D_due 39 = .ok (.aload_n 0, 1) := by decide +kernel
theorem d_D_due_40 : decode c_D_due 40 = .ok (.getfield 35, 3) := by decide +kernel
theorem d_D_due_43 : decode c_D_due 43 = .ok (.aload_n 0, 1) := by decide +kernel
theorem d_D_due_44 : decode c_D_due 44 = .ok (.getfield 26, 3) := by decide +kernel
theorem d_D_due_47 : decode c_D_due 47 = .ok (.getfield 113, 3) := by decide +kernel
theorem d_D_due_50 : decode c_D_due 50 = .ok (.iload_n 1, 1) := by decide +kernel
theorem d_D_due_51 : decode c_D_due 51 = .ok (.iaload, 1) := by decide +kernel
theorem d_D_due_52 : decode c_D_due 52 = .ok (.invokevirtual 154, 3) := by decide +kernel
theorem d_D_due_55 : decode c_D_due 55 = .ok (.iload_n 3, 1) := by decide +kernel
theorem d_D_due_56 : decode c_D_due 56 = .ok (.ifCond .ne 22, 3) := by decide +kernel
theorem d_D_due_59 : decode c_D_due 59 = .ok (.aload_n 0, 1) := by decide +kernel
theorem d_D_due_60 : decode c_D_due 60 = .ok (.getfield 26, 3) := by decide +kernel
theorem d_D_due_63 : decode c_D_due 63 = .ok (.aload_n 0, 1) := by decide +kernel
theorem d_D_due_64 : decode c_D_due 64 = .ok (.getfield 35, 3) := by decide +kernel
theorem d_D_due_67 : decode c_D_due 67 = .ok (.getfield 175, 3) := by decide +kernel
theorem d_D_due_70 : decode c_D_due 70 = .ok (.iload_n 1, 1) := by decide +kernel
theorem d_D_due_71 : decode c_D_due 71 = .ok (.laload, 1) := by decide +kernel
theorem d_D_due_72 : decode c_D_due 72 = .ok (.iload_n 1, 1) := by decide +kernel
theorem d_D_due_73 : decode c_D_due 73 = .ok (.iload_n 2, 1) := by decide +kernel
theorem d_D_due_74 : decode c_D_due 74 = .ok (.invokevirtual 199, 3) := by decide +kernel
theorem d_D_due_77 : decode c_D_due 77 = .ok (.lreturn, 1) := by decide +kernel
theorem d_D_due_78 : decode c_D_due 78 = .ok (.aload_n 0, 1) := by decide +kernel
theorem d_D_due_79 : decode c_D_due 79 = .ok (.getfield 26, 3) := by decide +kernel
theorem d_D_due_82 : decode c_D_due 82 = .ok (.aload_n 0, 1) := by decide +kernel
theorem d_D_due_83 : decode c_D_due 83 = .ok (.getfield 35, 3) := by decide +kernel
theorem d_D_due_86 : decode c_D_due 86 = .ok (.iload_n 1, 1) := by decide +kernel
theorem d_D_due_87 : decode c_D_due 87 = .ok (.invokevirtual 203, 3) := by decide +kernel
theorem d_D_due_90 : decode c_D_due 90 = .ok (.iload_n 1, 1) := by decide +kernel
theorem d_D_due_91 : decode c_D_due 91 = .ok (.iload_n 2, 1) := by decide +kernel
theorem d_D_due_92 : decode c_D_due 92 = .ok (.invokevirtual 199, 3) := by decide +kernel
theorem d_D_due_95 : decode c_D_due 95 = .ok (.lreturn, 1) := by decide +kernel
theorem d_D_estimate_0 : decode c_D_estimate 0 = .ok (.aload_n 0, 1) := by decide +kernel
theorem d_D_estimate_1 : decode c_D_estimate 1 = .ok (.getfield 19, 3) := by decide +kernel
theorem d_D_estimate_4 : decode c_D_estimate 4 = .ok (.iload_n 1, 1) := by decide +kernel
theorem d_D_estimate_5 : decode c_D_estimate 5 = .ok (.invokevirtual 132, 3) := by decide +kernel
theorem d_D_estimate_8 : decode c_D_estimate 8 = .ok (.ifCond .eq 10, 3) := by decide +kernel
theorem d_D_estimate_11 : decode c_D_estimate 11 = .ok (.iload_n 2, 1) := by decide +kernel
theorem d_D_estimate_12 : decode c_D_estimate 12 = .ok (.invokestatic 78, 3) := by decide +kernel
theorem d_D_estimate_15 : decode c_D_estimate 15 = .ok (.ifCond .ne 13, 3) := by decide +kernel
theorem d_D_estimate_18 : decode c_D_estimate 18 = .ok (.new 55, 3) := by decide +kernel
theorem d_D_estimate_21 : decode c_D_estimate 21 = .ok (.dup, 1) := by decide +kernel
theorem d_D_estimate_22 : decode c_D_estimate 22 = .ok (.ldc 133, 2) := by decide +kernel
theorem d_D_estimate_24 : decode c_D_estimate 24 = .ok (.invokespecial 59, 3) := by decide +kernel
theorem d_D_estimate_27 : decode c_D_estimate 27 = .ok (.athrow, 1) := by decide +kernel
theorem d_D_estimate_28 : decode c_D_estimate 28 = .ok (.aload_n 0, 1) := by decide +kernel
theorem d_D_estimate_29 : decode c_D_estimate 29 = .ok (.getfield 19, 3) := by decide +kernel
theorem d_D_estimate_32 : decode c_D_estimate 32 = .ok (.getfield 135, 3) := by decide +kernel
theorem d_D_estimate_35 : decode c_D_estimate 35 = .ok (.iload_n 1, 1) := by decide +kernel
theorem d_D_estimate_36 : decode c_D_estimate 36 = .ok (.baload, 1) := by decide +kernel
theorem d_D_estimate_37 : decode c_D_estimate 37 = .ok (.ifCond .ne 16, 3) := by decide +kernel
theorem d_D_estimate_40 : decode c_D_estimate 40 = .ok (.aload_n 0, 1) := by decide +kernel
theorem d_D_estimate_41 : decode c_D_estimate 41 = .ok (.getfield 39, 3) := by decide +kernel
theorem d_D_estimate_44 : decode c_D_estimate 44 = .ok (.aload_n 0, 1) := by decide +kernel
theorem d_D_estimate_45 : decode c_D_estimate 45 = .ok (.iload_n 1, 1) := by decide +kernel
theorem d_D_estimate_46 : decode c_D_estimate 46 = .ok (.invokevirtual 138, 3) := by decide +kernel
theorem d_D_estimate_49 : decode c_D_estimate 49 = .ok (.baload, 1) := by decide +kernel
theorem d_D_estimate_50 : decode c_D_estimate 50 = .ok (.ifCond .eq 13, 3) := by decide +kernel
theorem d_D_estimate_53 : decode c_D_estimate 53 = .ok (.new 66, 3) := by decide +kernel
theorem d_D_estimate_56 : decode c_D_estimate 56 = .ok (.dup, 1) := by decide +kernel
theorem d_D_estimate_57 : decode c_D_estimate 57 = .ok (.ldc 142, 2) := by decide +kernel
theorem d_D_estimate_59 : decode c_D_estimate 59 = .ok (.invokespecial 70, 3) := by decide +kernel
theorem d_D_estimate_62 : decode c_D_estimate 62 = .ok (.athrow, 1) := by decide +kernel
theorem d_D_estimate_63 : decode c_D_estimate 63 = .ok (.aload_n 0, 1) := by decide +kernel
theorem d_D_estimate_64 : decode c_D_estimate 64 = .ok (.getfield 19, 3) := by decide +kernel
theorem d_D_estimate_67 : decode c_D_estimate 67 = .ok (.getfield 144, 3) := by decide +kernel
theorem d_D_estimate_70 : decode c_D_estimate 70 = .ok (.iload_n 1, 1) := by decide +kernel
theorem d_D_estimate_71 : decode c_D_estimate 71 = .ok (.iload_n 2, 1) := by decide +kernel
theorem d_D_estimate_72 : decode c_D_estimate 72 = .ok (.iastore, 1) := by decide +kernel
theorem d_D_estimate_73 : decode c_D_estimate 73 = .ok (.return_, 1) := by decide +kernel
theorem d_D_kept_0 : decode c_D_kept 0 = .ok (.aload_n 0, 1) := by decide +kernel
theorem d_D_kept_1 : decode c_D_kept 1 = .ok (.getfield 19, 3) := by decide +kernel
theorem d_D_kept_4 : decode c_D_kept 4 = .ok (.iload_n 1, 1) := by decide +kernel
theorem d_D_kept_5 : decode c_D_kept 5 = .ok (.invokevirtual 132, 3) := by decide +kernel
theorem d_D_kept_8 : decode c_D_kept 8 = .ok (.ifCond .ne 13, 3) := by decide +kernel
theorem d_D_kept_11 : decode c_D_kept 11 = .ok (.new 55, 3) := by decide +kernel
theorem d_D_kept_14 : decode c_D_kept 14 = .ok (.dup, 1) := by decide +kernel
theorem d_D_kept_15 : decode c_D_kept 15 = .ok (.ldc 147, 2) := by decide +kernel
theorem d_D_kept_17 : decode c_D_kept 17 = .ok (.invokespecial 59, 3) := by decide +kernel
theorem d_D_kept_20 : decode c_D_kept 20 = .ok (.athrow, 1) := by decide +kernel
theorem d_D_kept_21 : decode c_D_kept 21 = .ok (.aload_n 0, 1) := by decide +kernel
theorem d_D_kept_22 : decode c_D_kept 22 = .ok (.getfield 35, 3) := by decide +kernel
theorem d_D_kept_25 : decode c_D_kept 25 = .ok (.aload_n 0, 1) := by decide +kernel
theorem d_D_kept_26 : decode c_D_kept 26 = .ok (.iload_n 1, 1) := by decide +kernel
theorem d_D_kept_27 : decode c_D_kept 27 = .ok (.invokevirtual 138, 3) := by decide +kernel
theorem d_D_kept_30 : decode c_D_kept 30 = .ok (.invokevirtual 154, 3) := by decide +kernel
theorem d_D_kept_33 : decode c_D_kept 33 = .ok (.aload_n 0, 1) := by decide +kernel
theorem d_D_kept_34 : decode c_D_kept 34 = .ok (.getfield 35, 3) := by decide +kernel
theorem d_D_kept_37 : decode c_D_kept 37 = .ok (.getfield 158, 3) := by decide +kernel
theorem d_D_kept_40 : decode c_D_kept 40 = .ok (.iload_n 1, 1) := by decide +kernel
theorem d_D_kept_41 : decode c_D_kept 41 = .ok (.iaload, 1) := by decide +kernel
theorem d_D_kept_42 : decode c_D_kept 42 = .ok (.ireturn, 1) := by decide +kernel
theorem d_D_left_0 : decode c_D_left 0 = .ok (.aload_n 0, 1) := by decide +kernel
theorem d_D_left_1 : decode c_D_left 1 = .ok (.getfield 26, 3) := by decide +kernel
theorem d_D_left_4 : decode c_D_left 4 = .ok (.iload_n 1, 1) := by decide +kernel
theorem d_D_left_5 : decode c_D_left 5 = .ok (.invokevirtual 107, 3) := by decide +kernel
theorem d_D_left_8 : decode c_D_left 8 = .ok (.ifCond .eq 14, 3) := by decide +kernel
theorem d_D_left_11 : decode c_D_left 11 = .ok (.aload_n 0, 1) := by decide +kernel
theorem d_D_left_12 : decode c_D_left 12 = .ok (.getfield 26, 3) := by decide +kernel
theorem d_D_left_15 : decode c_D_left 15 = .ok (.iload_n 1, 1) := by decide +kernel
theorem d_D_left_16 : decode c_D_left 16 = .ok (.invokevirtual 166, 3) := by decide +kernel
theorem d_D_left_19 : decode c_D_left 19 = .ok (.ifCond .ne 13, 3) := by decide +kernel
theorem d_D_left_22 : decode c_D_left 22 = .ok (.new 55, 3) := by decide +kernel
theorem d_D_left_25 : decode c_D_left 25 = .ok (.dup, 1) := by decide +kernel
theorem d_D_left_26 : decode c_D_left 26 = .ok (.ldc 169, 2) := by decide +kernel
theorem d_D_left_28 : decode c_D_left 28 = .ok (.invokespecial 59, 3) := by decide +kernel
theorem d_D_left_31 : decode c_D_left 31 = .ok (.athrow, 1) := by decide +kernel
theorem d_D_left_32 : decode c_D_left 32 = .ok (.aload_n 0, 1) := by decide +kernel
theorem d_D_left_33 : decode c_D_left 33 = .ok (.getfield 35, 3) := by decide +kernel
theorem d_D_left_36 : decode c_D_left 36 = .ok (.aload_n 0, 1) := by decide +kernel
theorem d_D_left_37 : decode c_D_left 37 = .ok (.getfield 26, 3) := by decide +kernel
theorem d_D_left_40 : decode c_D_left 40 = .ok (.getfield 113, 3) := by decide +kernel
theorem d_D_left_43 : decode c_D_left 43 = .ok (.iload_n 1, 1) := by decide +kernel
theorem d_D_left_44 : decode c_D_left 44 = .ok (.iaload, 1) := by decide +kernel
theorem d_D_left_45 : decode c_D_left 45 = .ok (.invokevirtual 154, 3) := by decide +kernel
theorem d_D_left_48 : decode c_D_left 48 = .ok (.aload_n 0, 1) := by decide +kernel
theorem d_D_left_49 : decode c_D_left 49 = .ok (.getfield 26, 3) := by decide +kernel
theorem d_D_left_52 : decode c_D_left 52 = .ok (.iload_n 1, 1) := by decide +kernel
theorem d_D_left_53 : decode c_D_left 53 = .ok (.invokevirtual 171, 3) := by decide +kernel
theorem d_D_left_56 : decode c_D_left 56 = .ok (.aload_n 0, 1) := by decide +kernel
theorem d_D_left_57 : decode c_D_left 57 = .ok (.getfield 35, 3) := by decide +kernel
theorem d_D_left_60 : decode c_D_left 60 = .ok (.getfield 175, 3) := by decide +kernel
theorem d_D_left_63 : decode c_D_left 63 = .ok (.iload_n 1, 1) := by decide +kernel
theorem d_D_left_64 : decode c_D_left 64 = .ok (.laload, 1) := by decide +kernel
theorem d_D_left_65 : decode c_D_left 65 = .ok (.lsub, 1) := by decide +kernel
theorem d_D_left_66 : decode c_D_left 66 = .ok (.lreturn, 1) := by decide +kernel
theorem d_D_premium_0 : decode c_D_premium 0 = .ok (.aload_n 0, 1) := by decide +kernel
theorem d_D_premium_1 : decode c_D_premium 1 = .ok (.getfield 10, 3) := by decide +kernel
theorem d_D_premium_4 : decode c_D_premium 4 = .ok (.iload_n 1, 1) := by decide +kernel
theorem d_D_premium_5 : decode c_D_premium 5 = .ok (.invokevirtual 62, 3) := by decide +kernel
theorem d_D_premium_8 : decode c_D_premium 8 = .ok (.ifCond .eq 10, 3) := by decide +kernel
theorem d_D_premium_11 : decode c_D_premium 11 = .ok (.iload_n 2, 1) := by decide +kernel
theorem d_D_premium_12 : decode c_D_premium 12 = .ok (.invokestatic 78, 3) := by decide +kernel
theorem d_D_premium_15 : decode c_D_premium 15 = .ok (.ifCond .ne 13, 3) := by decide +kernel
theorem d_D_premium_18 : decode c_D_premium 18 = .ok (.new 55, 3) := by decide +kernel
theorem d_D_premium_21 : decode c_D_premium 21 = .ok (.dup, 1) := by decide +kernel
theorem d_D_premium_22 : decode c_D_premium 22 = .ok (.ldc 81, 2) := by decide +kernel
theorem d_D_premium_24 : decode c_D_premium 24 = .ok (.invokespecial 59, 3) := by decide +kernel
theorem d_D_premium_27 : decode c_D_premium 27 = .ok (.athrow, 1) := by decide +kernel
theorem d_D_premium_28 : decode c_D_premium 28 = .ok (.aload_n 0, 1) := by decide +kernel
theorem d_D_premium_29 : decode c_D_premium 29 = .ok (.getfield 39, 3) := by decide +kernel
theorem d_D_premium_32 : decode c_D_premium 32 = .ok (.aload_n 0, 1) := by decide +kernel
theorem d_D_premium_33 : decode c_D_premium 33 = .ok (.getfield 10, 3) := by decide +kernel
theorem d_D_premium_36 : decode c_D_premium 36 = .ok (.getfield 75, 3) := by decide +kernel
theorem d_D_premium_39 : decode c_D_premium 39 = .ok (.iload_n 1, 1) := by decide +kernel
theorem d_D_premium_40 : decode c_D_premium 40 = .ok (.iaload, 1) := by decide +kernel
theorem d_D_premium_41 : decode c_D_premium 41 = .ok (.baload, 1) := by decide +kernel
theorem d_D_premium_42 : decode c_D_premium 42 = .ok (.ifCond .eq 13, 3) := by decide +kernel
theorem d_D_premium_45 : decode c_D_premium 45 = .ok (.new 66, 3) := by decide +kernel
theorem d_D_premium_48 : decode c_D_premium 48 = .ok (.dup, 1) := by decide +kernel
theorem d_D_premium_49 : decode c_D_premium 49 = .ok (.ldc 83, 2) := by decide +kernel
theorem d_D_premium_51 : decode c_D_premium 51 = .ok (.invokespecial 70, 3) := by decide +kernel
theorem d_D_premium_54 : decode c_D_premium 54 = .ok (.athrow, 1) := by decide +kernel
theorem d_D_premium_55 : decode c_D_premium 55 = .ok (.aload_n 0, 1) := by decide +kernel
theorem d_D_premium_56 : decode c_D_premium 56 = .ok (.getfield 10, 3) := by decide +kernel
theorem d_D_premium_59 : decode c_D_premium 59 = .ok (.getfield 85, 3) := by decide +kernel
theorem d_D_premium_62 : decode c_D_premium 62 = .ok (.iload_n 1, 1) := by decide +kernel
theorem d_D_premium_63 : decode c_D_premium 63 = .ok (.iload_n 2, 1) := by decide +kernel
theorem d_D_premium_64 : decode c_D_premium 64 = .ok (.iastore, 1) := by decide +kernel
theorem d_D_premium_65 : decode c_D_premium 65 = .ok (.return_, 1) := by decide +kernel
theorem d_D_risk_0 : decode c_D_risk 0 = .ok (.iload_n 1, 1) := by decide +kernel
theorem d_D_risk_1 : decode c_D_risk 1 = .ok (.bipush 12, 2) := by decide +kernel
theorem d_D_risk_3 : decode c_D_risk 3 = .ok (.invokestatic 47, 3) := by decide +kernel
theorem d_D_risk_6 : decode c_D_risk 6 = .ok (.ifCond .eq 20, 3) := by decide +kernel
theorem d_D_risk_9 : decode c_D_risk 9 = .ok (.iload_n 2, 1) := by decide +kernel
theorem d_D_risk_10 : decode c_D_risk 10 = .ok (.ldc 51, 2) := by decide +kernel
theorem d_D_risk_12 : decode c_D_risk 12 = .ok (.invokestatic 52, 3) := by decide +kernel
theorem d_D_risk_15 : decode c_D_risk 15 = .ok (.ifCond .eq 11, 3) := by decide +kernel
theorem d_D_risk_18 : decode c_D_risk 18 = .ok (.iload_n 3, 1) := by decide +kernel
theorem d_D_risk_19 : decode c_D_risk 19 = .ok (.iconst 4, 1) := by decide +kernel
theorem d_D_risk_20 : decode c_D_risk 20 = .ok (.invokestatic 47, 3) := by decide +kernel
theorem d_D_risk_23 : decode c_D_risk 23 = .ok (.ifCond .ne 13, 3) := by decide +kernel
theorem d_D_risk_26 : decode c_D_risk 26 = .ok (.new 55, 3) := by decide +kernel
theorem d_D_risk_29 : decode c_D_risk 29 = .ok (.dup, 1) := by decide +kernel
theorem d_D_risk_30 : decode c_D_risk 30 = .ok (.ldc 57, 2) := by decide +kernel
theorem d_D_risk_32 : decode c_D_risk 32 = .ok (.invokespecial 59, 3) := by decide +kernel
theorem d_D_risk_35 : decode c_D_risk 35 = .ok (.athrow, 1) := by decide +kernel
theorem d_D_risk_36 : decode c_D_risk 36 = .ok (.aload_n 0, 1) := by decide +kernel
theorem d_D_risk_37 : decode c_D_risk 37 = .ok (.getfield 10, 3) := by decide +kernel
theorem d_D_risk_40 : decode c_D_risk 40 = .ok (.iload_n 1, 1) := by decide +kernel
theorem d_D_risk_41 : decode c_D_risk 41 = .ok (.invokevirtual 62, 3) := by decide +kernel
theorem d_D_risk_44 : decode c_D_risk 44 = .ok (.ifCond .ne 12, 3) := by decide +kernel
theorem d_D_risk_47 : decode c_D_risk 47 = .ok (.aload_n 0, 1) := by decide +kernel
theorem d_D_risk_48 : decode c_D_risk 48 = .ok (.getfield 39, 3) := by decide +kernel
theorem d_D_risk_51 : decode c_D_risk 51 = .ok (.iload_n 3, 1) := by decide +kernel
theorem d_D_risk_52 : decode c_D_risk 52 = .ok (.baload, 1) := by decide +kernel
theorem d_D_risk_53 : decode c_D_risk 53 = .ok (.ifCond .eq 13, 3) := by decide +kernel
theorem d_D_risk_56 : decode c_D_risk 56 = .ok (.new 66, 3) := by decide +kernel
theorem d_D_risk_59 : decode c_D_risk 59 = .ok (.dup, 1) := by decide +kernel
theorem d_D_risk_60 : decode c_D_risk 60 = .ok (.ldc 68, 2) := by decide +kernel
theorem d_D_risk_62 : decode c_D_risk 62 = .ok (.invokespecial 70, 3) := by decide +kernel
theorem d_D_risk_65 : decode c_D_risk 65 = .ok (.athrow, 1) := by decide +kernel
theorem d_D_risk_66 : decode c_D_risk 66 = .ok (.aload_n 0, 1) := by decide +kernel
theorem d_D_risk_67 : decode c_D_risk 67 = .ok (.getfield 10, 3) := by decide +kernel
theorem d_D_risk_70 : decode c_D_risk 70 = .ok (.getfield 71, 3) := by decide +kernel
theorem d_D_risk_73 : decode c_D_risk 73 = .ok (.iload_n 1, 1) := by decide +kernel
theorem d_D_risk_74 : decode c_D_risk 74 = .ok (.iload_n 2, 1) := by decide +kernel
theorem d_D_risk_75 : decode c_D_risk 75 = .ok (.iastore, 1) := by decide +kernel
theorem d_D_risk_76 : decode c_D_risk 76 = .ok (.aload_n 0, 1) := by decide +kernel
theorem d_D_risk_77 : decode c_D_risk 77 = .ok (.getfield 10, 3) := by decide +kernel
theorem d_D_risk_80 : decode c_D_risk 80 = .ok (.getfield 75, 3) := by decide +kernel
theorem d_D_risk_83 : decode c_D_risk 83 = .ok (.iload_n 1, 1) := by decide +kernel
theorem d_D_risk_84 : decode c_D_risk 84 = .ok (.iload_n 3, 1) := by decide +kernel
theorem d_D_risk_85 : decode c_D_risk 85 = .ok (.iastore, 1) := by decide +kernel
theorem d_D_risk_86 : decode c_D_risk 86 = .ok (.return_, 1) := by decide +kernel
theorem d_D_share_0 : decode c_D_share 0 = .ok (.aload_n 0, 1) := by decide +kernel
theorem d_D_share_1 : decode c_D_share 1 = .ok (.getfield 26, 3) := by decide +kernel
theorem d_D_share_4 : decode c_D_share 4 = .ok (.iload_n 1, 1) := by decide +kernel
theorem d_D_share_5 : decode c_D_share 5 = .ok (.invokevirtual 107, 3) := by decide +kernel
theorem d_D_share_8 : decode c_D_share 8 = .ok (.ifCond .eq 22, 3) := by decide +kernel
theorem d_D_share_11 : decode c_D_share 11 = .ok (.iload_n 2, 1) := by decide +kernel
theorem d_D_share_12 : decode c_D_share 12 = .ok (.bipush 6, 2) := by decide +kernel
theorem d_D_share_14 : decode c_D_share 14 = .ok (.invokestatic 47, 3) := by decide +kernel
theorem d_D_share_17 : decode c_D_share 17 = .ok (.ifCond .eq 13, 3) := by decide +kernel
theorem d_D_share_20 : decode c_D_share 20 = .ok (.iload_n 3, 1) := by decide +kernel
theorem d_D_share_21 : decode c_D_share 21 = .ok (.ifCond .lt 9, 3) := by decide +kernel
theorem d_D_share_24 : decode c_D_share 24 = .ok (.iload_n 3, 1) := by decide +kernel
theorem d_D_share_25 : decode c_D_share 25 = .ok (.ldc 110, 2) := by decide +kernel
theorem d_D_share_27 : decode c_D_share 27 = .ok (.if_icmp .le 13, 3) := by decide +kernel
theorem d_D_share_30 : decode c_D_share 30 = .ok (.new 55, 3) := by decide +kernel
theorem d_D_share_33 : decode c_D_share 33 = .ok (.dup, 1) := by decide +kernel
theorem d_D_share_34 : decode c_D_share 34 = .ok (.ldc 111, 2) := by decide +kernel
theorem d_D_share_36 : decode c_D_share 36 = .ok (.invokespecial 59, 3) := by decide +kernel
theorem d_D_share_39 : decode c_D_share 39 = .ok (.athrow, 1) := by decide +kernel
theorem d_D_share_40 : decode c_D_share 40 = .ok (.aload_n 0, 1) := by decide +kernel
theorem d_D_share_41 : decode c_D_share 41 = .ok (.getfield 39, 3) := by decide +kernel
theorem d_D_share_44 : decode c_D_share 44 = .ok (.aload_n 0, 1) := by decide +kernel
theorem d_D_share_45 : decode c_D_share 45 = .ok (.getfield 26, 3) := by decide +kernel
theorem d_D_share_48 : decode c_D_share 48 = .ok (.getfield 113, 3) := by decide +kernel
theorem d_D_share_51 : decode c_D_share 51 = .ok (.iload_n 1, 1) := by decide +kernel
theorem d_D_share_52 : decode c_D_share 52 = .ok (.iaload, 1) := by decide +kernel
theorem d_D_share_53 : decode c_D_share 53 = .ok (.baload, 1) := by decide +kernel
theorem d_D_share_54 : decode c_D_share 54 = .ok (.ifCond .ne 19, 3) := by decide +kernel
theorem d_D_share_57 : decode c_D_share 57 = .ok (.aload_n 0, 1) := by decide +kernel
theorem d_D_share_58 : decode c_D_share 58 = .ok (.getfield 26, 3) := by decide +kernel
theorem d_D_share_61 : decode c_D_share 61 = .ok (.iload_n 1, 1) := by decide +kernel
theorem d_D_share_62 : decode c_D_share 62 = .ok (.iload_n 2, 1) := by decide +kernel
theorem d_D_share_63 : decode c_D_share 63 = .ok (.invokevirtual 114, 3) := by decide +kernel
theorem d_D_share_66 : decode c_D_share 66 = .ok (.iload_n 3, 1) := by decide +kernel
theorem d_D_share_67 : decode c_D_share 67 = .ok (.iadd, 1) := by decide +kernel
theorem d_D_share_68 : decode c_D_share 68 = .ok (.ldc 110, 2) := by decide +kernel
theorem d_D_share_70 : decode c_D_share 70 = .ok (.if_icmp .le 13, 3) := by decide +kernel
theorem d_D_share_73 : decode c_D_share 73 = .ok (.new 66, 3) := by decide +kernel
theorem d_D_share_76 : decode c_D_share 76 = .ok (.dup, 1) := by decide +kernel
theorem d_D_share_77 : decode c_D_share 77 = .ok (.ldc 118, 2) := by decide +kernel
theorem d_D_share_79 : decode c_D_share 79 = .ok (.invokespecial 70, 3) := by decide +kernel
theorem d_D_share_82 : decode c_D_share 82 = .ok (.athrow, 1) := by decide +kernel
theorem d_D_share_83 : decode c_D_share 83 = .ok (.aload_n 0, 1) := by decide +kernel
theorem d_D_share_84 : decode c_D_share 84 = .ok (.getfield 26, 3) := by decide +kernel
theorem d_D_share_87 : decode c_D_share 87 = .ok (.getfield 120, 3) := by decide +kernel
theorem d_D_share_90 : decode c_D_share 90 = .ok (.iload_n 1, 1) := by decide +kernel
theorem d_D_share_91 : decode c_D_share 91 = .ok (.bipush 6, 2) := by decide +kernel
theorem d_D_share_93 : decode c_D_share 93 = .ok (.imul, 1) := by decide +kernel
theorem d_D_share_94 : decode c_D_share 94 = .ok (.iload_n 2, 1) := by decide +kernel
theorem d_D_share_95 : decode c_D_share 95 = .ok (.iadd, 1) := by decide +kernel
theorem d_D_share_96 : decode c_D_share 96 = .ok (.iload_n 3, 1) := by decide +kernel
theorem d_D_share_97 : decode c_D_share 97 = .ok (.iastore, 1) := by decide +kernel
theorem d_D_share_98 : decode c_D_share 98 = .ok (.return_, 1) := by decide +kernel
theorem d_D_strike_0 : decode c_D_strike 0 = .ok (.aload_n 0, 1) := by decide +kernel
theorem d_D_strike_1 : decode c_D_strike 1 = .ok (.getfield 19, 3) := by decide +kernel
theorem d_D_strike_4 : decode c_D_strike 4 = .ok (.iload_n 1, 1) := by decide +kernel
theorem d_D_strike_5 : decode c_D_strike 5 = .ok (.invokevirtual 132, 3) := by decide +kernel
theorem d_D_strike_8 : decode c_D_strike 8 = .ok (.ifCond .ne 13, 3) := by decide +kernel
theorem d_D_strike_11 : decode c_D_strike 11 = .ok (.new 55, 3) := by decide +kernel
theorem d_D_strike_14 : decode c_D_strike 14 = .ok (.dup, 1) := by decide +kernel
theorem d_D_strike_15 : decode c_D_strike 15 = .ok (.ldc 147, 2) := by decide +kernel
theorem d_D_strike_17 : decode c_D_strike 17 = .ok (.invokespecial 59, 3) := by decide +kernel
theorem d_D_strike_20 : decode c_D_strike 20 = .ok (.athrow, 1) := by decide +kernel
theorem d_D_strike_21 : decode c_D_strike 21 = .ok (.aload_n 0, 1) := by decide +kernel
theorem d_D_strike_22 : decode c_D_strike 22 = .ok (.getfield 19, 3) := by decide +kernel
theorem d_D_strike_25 : decode c_D_strike 25 = .ok (.getfield 135, 3) := by decide +kernel
theorem d_D_strike_28 : decode c_D_strike 28 = .ok (.iload_n 1, 1) := by decide +kernel
theorem d_D_strike_29 : decode c_D_strike 29 = .ok (.baload, 1) := by decide +kernel
theorem d_D_strike_30 : decode c_D_strike 30 = .ok (.ifCond .ne 16, 3) := by decide +kernel
theorem d_D_strike_33 : decode c_D_strike 33 = .ok (.aload_n 0, 1) := by decide +kernel
theorem d_D_strike_34 : decode c_D_strike 34 = .ok (.getfield 39, 3) := by decide +kernel
theorem d_D_strike_37 : decode c_D_strike 37 = .ok (.aload_n 0, 1) := by decide +kernel
theorem d_D_strike_38 : decode c_D_strike 38 = .ok (.iload_n 1, 1) := by decide +kernel
theorem d_D_strike_39 : decode c_D_strike 39 = .ok (.invokevirtual 138, 3) := by decide +kernel
theorem d_D_strike_42 : decode c_D_strike 42 = .ok (.baload, 1) := by decide +kernel
theorem d_D_strike_43 : decode c_D_strike 43 = .ok (.ifCond .eq 13, 3) := by decide +kernel
theorem d_D_strike_46 : decode c_D_strike 46 = .ok (.new 66, 3) := by decide +kernel
theorem d_D_strike_49 : decode c_D_strike 49 = .ok (.dup, 1) := by decide +kernel
theorem d_D_strike_50 : decode c_D_strike 50 = .ok (.ldc 142, 2) := by decide +kernel
theorem d_D_strike_52 : decode c_D_strike 52 = .ok (.invokespecial 70, 3) := by decide +kernel
theorem d_D_strike_55 : decode c_D_strike 55 = .ok (.athrow, 1) := by decide +kernel
theorem d_D_strike_56 : decode c_D_strike 56 = .ok (.aload_n 0, 1) := by decide +kernel
theorem d_D_strike_57 : decode c_D_strike 57 = .ok (.getfield 19, 3) := by decide +kernel
theorem d_D_strike_60 : decode c_D_strike 60 = .ok (.getfield 135, 3) := by decide +kernel
theorem d_D_strike_63 : decode c_D_strike 63 = .ok (.iload_n 1, 1) := by decide +kernel
theorem d_D_strike_64 : decode c_D_strike 64 = .ok (.iconst 1, 1) := by decide +kernel
theorem d_D_strike_65 : decode c_D_strike 65 = .ok (.bastore, 1) := by decide +kernel
theorem d_D_strike_66 : decode c_D_strike 66 = .ok (.return_, 1) := by decide +kernel
theorem d_D_total_0 : decode c_D_total 0 = .ok (.aload_n 0, 1) := by decide +kernel
theorem d_D_total_1 : decode c_D_total 1 = .ok (.getfield 26, 3) := by decide +kernel
theorem d_D_total_4 : decode c_D_total 4 = .ok (.iload_n 1, 1) := by decide +kernel
theorem d_D_total_5 : decode c_D_total 5 = .ok (.invokevirtual 107, 3) := by decide +kernel
theorem d_D_total_8 : decode c_D_total 8 = .ok (.ifCond .eq 12, 3) := by decide +kernel
theorem d_D_total_11 : decode c_D_total 11 = .ok (.iload_n 2, 1) := by decide +kernel
theorem d_D_total_12 : decode c_D_total 12 = .ok (.ifCond .lt 8, 3) := by decide +kernel
theorem d_D_total_15 : decode c_D_total 15 = .ok (.iload_n 2, 1) := by decide +kernel
theorem d_D_total_16 : decode c_D_total 16 = .ok (.iconst 3, 1) := by decide +kernel
theorem d_D_total_17 : decode c_D_total 17 = .ok (.if_icmp .le 13, 3) := by decide +kernel
theorem d_D_total_20 : decode c_D_total 20 = .ok (.new 55, 3) := by decide +kernel
theorem d_D_total_23 : decode c_D_total 23 = .ok (.dup, 1) := by decide +kernel
theorem d_D_total_24 : decode c_D_total 24 = .ok (.ldc 186, 2) := by decide +kernel
theorem d_D_total_26 : decode c_D_total 26 = .ok (.invokespecial 59, 3) := by decide +kernel
theorem d_D_total_29 : decode c_D_total 29 = .ok (.athrow, 1) := by decide +kernel
theorem d_D_total_30 : decode c_D_total 30 = .ok (.aload_n 0, 1) := by decide +kernel
theorem d_D_total_31 : decode c_D_total 31 = .ok (.getfield 35, 3) := by decide +kernel
theorem d_D_total_34 : decode c_D_total 34 = .ok (.aload_n 0, 1) := by decide +kernel
theorem d_D_total_35 : decode c_D_total 35 = .ok (.getfield 26, 3) := by decide +kernel
theorem d_D_total_38 : decode c_D_total 38 = .ok (.getfield 113, 3) := by decide +kernel
theorem d_D_total_41 : decode c_D_total 41 = .ok (.iload_n 1, 1) := by decide +kernel
theorem d_D_total_42 : decode c_D_total 42 = .ok (.iaload, 1) := by decide +kernel
theorem d_D_total_43 : decode c_D_total 43 = .ok (.invokevirtual 154, 3) := by decide +kernel
theorem d_D_total_46 : decode c_D_total 46 = .ok (.iload_n 2, 1) := by decide +kernel
theorem d_D_total_47 : decode c_D_total 47 = .ok (.tableswitch 54 0 2 #[25, 35, 45], 25) := by decide +kernel
theorem d_D_total_72 : decode c_D_total 72 = .ok (.aload_n 0, 1) := by decide +kernel
theorem d_D_total_73 : decode c_D_total 73 = .ok (.getfield 35, 3) := by decide +kernel
theorem d_D_total_76 : decode c_D_total 76 = .ok (.getfield 175, 3) := by decide +kernel
theorem d_D_total_79 : decode c_D_total 79 = .ok (.iload_n 1, 1) := by decide +kernel
theorem d_D_total_80 : decode c_D_total 80 = .ok (.laload, 1) := by decide +kernel
theorem d_D_total_81 : decode c_D_total 81 = .ok (.lreturn, 1) := by decide +kernel
theorem d_D_total_82 : decode c_D_total 82 = .ok (.aload_n 0, 1) := by decide +kernel
theorem d_D_total_83 : decode c_D_total 83 = .ok (.getfield 35, 3) := by decide +kernel
theorem d_D_total_86 : decode c_D_total 86 = .ok (.getfield 188, 3) := by decide +kernel
theorem d_D_total_89 : decode c_D_total 89 = .ok (.iload_n 1, 1) := by decide +kernel
theorem d_D_total_90 : decode c_D_total 90 = .ok (.laload, 1) := by decide +kernel
theorem d_D_total_91 : decode c_D_total 91 = .ok (.lreturn, 1) := by decide +kernel
theorem d_D_total_92 : decode c_D_total 92 = .ok (.aload_n 0, 1) := by decide +kernel
theorem d_D_total_93 : decode c_D_total 93 = .ok (.getfield 35, 3) := by decide +kernel
theorem d_D_total_96 : decode c_D_total 96 = .ok (.iload_n 1, 1) := by decide +kernel
theorem d_D_total_97 : decode c_D_total 97 = .ok (.invokevirtual 191, 3) := by decide +kernel
theorem d_D_total_100 : decode c_D_total 100 = .ok (.lreturn, 1) := by decide +kernel
theorem d_D_total_101 : decode c_D_total 101 = .ok (.aload_n 0, 1) := by decide +kernel
theorem d_D_total_102 : decode c_D_total 102 = .ok (.getfield 35, 3) := by decide +kernel
theorem d_D_total_105 : decode c_D_total 105 = .ok (.iload_n 1, 1) := by decide +kernel
theorem d_D_total_106 : decode c_D_total 106 = .ok (.invokevirtual 194, 3) := by decide +kernel
theorem d_D_total_109 : decode c_D_total 109 = .ok (.lreturn, 1) := by decide +kernel
theorem d_D_treaty_0 : decode c_D_treaty 0 = .ok (.iload_n 1, 1) := by decide +kernel
theorem d_D_treaty_1 : decode c_D_treaty 1 = .ok (.invokestatic 88, 3) := by decide +kernel
theorem d_D_treaty_4 : decode c_D_treaty 4 = .ok (.ifCond .eq 19, 3) := by decide +kernel
theorem d_D_treaty_7 : decode c_D_treaty 7 = .ok (.iload_n 1, 1) := by decide +kernel
theorem d_D_treaty_8 : decode c_D_treaty 8 = .ok (.bipush 10, 2) := by decide +kernel
theorem d_D_treaty_10 : decode c_D_treaty 10 = .ok (.idiv, 1) := by decide +kernel
theorem d_D_treaty_11 : decode c_D_treaty 11 = .ok (.iload_n 2, 1) := by decide +kernel
theorem d_D_treaty_12 : decode c_D_treaty 12 = .ok (.iload_n 3, 1) := by decide +kernel
theorem d_D_treaty_13 : decode c_D_treaty 13 = .ok (.iload 4, 2) := by decide +kernel
theorem d_D_treaty_15 : decode c_D_treaty 15 = .ok (.iload 5, 2) := by decide +kernel
theorem d_D_treaty_17 : decode c_D_treaty 17 = .ok (.invokestatic 91, 3) := by decide +kernel
theorem d_D_treaty_20 : decode c_D_treaty 20 = .ok (.ifCond .ne 13, 3) := by decide +kernel
theorem d_D_treaty_23 : decode c_D_treaty 23 = .ok (.new 55, 3) := by decide +kernel
theorem d_D_treaty_26 : decode c_D_treaty 26 = .ok (.dup, 1) := by decide +kernel
theorem d_D_treaty_27 : decode c_D_treaty 27 = .ok (.ldc 95, 2) := by decide +kernel
theorem d_D_treaty_29 : decode c_D_treaty 29 = .ok (.invokespecial 59, 3) := by decide +kernel
theorem d_D_treaty_32 : decode c_D_treaty 32 = .ok (.athrow, 1) := by decide +kernel
theorem d_D_treaty_33 : decode c_D_treaty 33 = .ok (.aload_n 0, 1) := by decide +kernel
theorem d_D_treaty_34 : decode c_D_treaty 34 = .ok (.getfield 26, 3) := by decide +kernel
theorem d_D_treaty_37 : decode c_D_treaty 37 = .ok (.getfield 97, 3) := by decide +kernel
theorem d_D_treaty_40 : decode c_D_treaty 40 = .ok (.bipush 10, 2) := by decide +kernel
theorem d_D_treaty_42 : decode c_D_treaty 42 = .ok (.if_icmp .ge 15, 3) := by decide +kernel
theorem d_D_treaty_45 : decode c_D_treaty 45 = .ok (.aload_n 0, 1) := by decide +kernel
theorem d_D_treaty_46 : decode c_D_treaty 46 = .ok (.getfield 39, 3) := by decide +kernel
theorem d_D_treaty_49 : decode c_D_treaty 49 = .ok (.iload_n 1, 1) := by decide +kernel
theorem d_D_treaty_50 : decode c_D_treaty 50 = .ok (.bipush 10, 2) := by decide +kernel
theorem d_D_treaty_52 : decode c_D_treaty 52 = .ok (.irem, 1) := by decide +kernel
theorem d_D_treaty_53 : decode c_D_treaty 53 = .ok (.baload, 1) := by decide +kernel
theorem d_D_treaty_54 : decode c_D_treaty 54 = .ok (.ifCond .eq 13, 3) := by decide +kernel
theorem d_D_treaty_57 : decode c_D_treaty 57 = .ok (.new 66, 3) := by decide +kernel
theorem d_D_treaty_60 : decode c_D_treaty 60 = .ok (.dup, 1) := by decide +kernel
theorem d_D_treaty_61 : decode c_D_treaty 61 = .ok (.ldc 101, 2) := by decide +kernel
theorem d_D_treaty_63 : decode c_D_treaty 63 = .ok (.invokespecial 70, 3) := by decide +kernel
theorem d_D_treaty_66 : decode c_D_treaty 66 = .ok (.athrow, 1) := by decide +kernel
theorem d_D_treaty_67 : decode c_D_treaty 67 = .ok (.aload_n 0, 1) := by decide +kernel
theorem d_D_treaty_68 : decode c_D_treaty 68 = .ok (.getfield 26, 3) := by decide +kernel
theorem d_D_treaty_71 : decode c_D_treaty 71 = .ok (.iload_n 1, 1) := by decide +kernel
theorem d_D_treaty_72 : decode c_D_treaty 72 = .ok (.iload_n 2, 1) := by decide +kernel
theorem d_D_treaty_73 : decode c_D_treaty 73 = .ok (.iload_n 3, 1) := by decide +kernel
theorem d_D_treaty_74 : decode c_D_treaty 74 = .ok (.iload 4, 2) := by decide +kernel
theorem d_D_treaty_76 : decode c_D_treaty 76 = .ok (.iload 5, 2) := by decide +kernel
theorem d_D_treaty_78 : decode c_D_treaty 78 = .ok (.invokevirtual 103, 3) := by decide +kernel
theorem d_D_treaty_81 : decode c_D_treaty 81 = .ok (.ireturn, 1) := by decide +kernel
theorem d_D_whatIf_0 : decode c_D_whatIf 0 = .ok (.aload_n 0, 1) := by decide +kernel
theorem d_D_whatIf_1 : decode c_D_whatIf 1 = .ok (.getfield 19, 3) := by decide +kernel
theorem d_D_whatIf_4 : decode c_D_whatIf 4 = .ok (.iload_n 1, 1) := by decide +kernel
theorem d_D_whatIf_5 : decode c_D_whatIf 5 = .ok (.invokevirtual 132, 3) := by decide +kernel
theorem d_D_whatIf_8 : decode c_D_whatIf 8 = .ok (.ifCond .eq 21, 3) := by decide +kernel
theorem d_D_whatIf_11 : decode c_D_whatIf 11 = .ok (.iload_n 2, 1) := by decide +kernel
theorem d_D_whatIf_12 : decode c_D_whatIf 12 = .ok (.invokestatic 78, 3) := by decide +kernel
theorem d_D_whatIf_15 : decode c_D_whatIf 15 = .ok (.ifCond .eq 14, 3) := by decide +kernel
theorem d_D_whatIf_18 : decode c_D_whatIf 18 = .ok (.aload_n 0, 1) := by decide +kernel
theorem d_D_whatIf_19 : decode c_D_whatIf 19 = .ok (.getfield 26, 3) := by decide +kernel
theorem d_D_whatIf_22 : decode c_D_whatIf 22 = .ok (.iload_n 3, 1) := by decide +kernel
theorem d_D_whatIf_23 : decode c_D_whatIf 23 = .ok (.invokevirtual 107, 3) := by decide +kernel
theorem d_D_whatIf_26 : decode c_D_whatIf 26 = .ok (.ifCond .ne 13, 3) := by decide +kernel
theorem d_D_whatIf_29 : decode c_D_whatIf 29 = .ok (.new 55, 3) := by decide +kernel
theorem d_D_whatIf_32 : decode c_D_whatIf 32 = .ok (.dup, 1) := by decide +kernel
theorem d_D_whatIf_33 : decode c_D_whatIf 33 = .ok (.ldc 206, 2) := by decide +kernel
theorem d_D_whatIf_35 : decode c_D_whatIf 35 = .ok (.invokespecial 59, 3) := by decide +kernel
theorem d_D_whatIf_38 : decode c_D_whatIf 38 = .ok (.athrow, 1) := by decide +kernel
theorem d_D_whatIf_39 : decode c_D_whatIf 39 = .ok (.aload_n 0, 1) := by decide +kernel
theorem d_D_whatIf_40 : decode c_D_whatIf 40 = .ok (.getfield 19, 3) := by decide +kernel
theorem d_D_whatIf_43 : decode c_D_whatIf 43 = .ok (.getfield 135, 3) := by decide +kernel
theorem d_D_whatIf_46 : decode c_D_whatIf 46 = .ok (.iload_n 1, 1) := by decide +kernel
theorem d_D_whatIf_47 : decode c_D_whatIf 47 = .ok (.baload, 1) := by decide +kernel
theorem d_D_whatIf_48 : decode c_D_whatIf 48 = .ok (.ifCond .eq 13, 3) := by decide +kernel
theorem d_D_whatIf_51 : decode c_D_whatIf 51 = .ok (.new 66, 3) := by decide +kernel
theorem d_D_whatIf_54 : decode c_D_whatIf 54 = .ok (.dup, 1) := by decide +kernel
theorem d_D_whatIf_55 : decode c_D_whatIf 55 = .ok (.ldc 208, 2) := by decide +kernel
theorem d_D_whatIf_57 : decode c_D_whatIf 57 = .ok (.invokespecial 70, 3) := by decide +kernel
theorem d_D_whatIf_60 : decode c_D_whatIf 60 = .ok (.athrow, 1) := by decide +kernel
theorem d_D_whatIf_61 : decode c_D_whatIf 61 = .ok (.aload_n 0, 1) := by decide +kernel
theorem d_D_whatIf_62 : decode c_D_whatIf 62 = .ok (.getfield 35, 3) := by decide +kernel
theorem d_D_whatIf_65 : decode c_D_whatIf 65 = .ok (.aload_n 0, 1) := by decide +kernel
theorem d_D_whatIf_66 : decode c_D_whatIf 66 = .ok (.iload_n 1, 1) := by decide +kernel
theorem d_D_whatIf_67 : decode c_D_whatIf 67 = .ok (.invokevirtual 138, 3) := by decide +kernel
theorem d_D_whatIf_70 : decode c_D_whatIf 70 = .ok (.iload_n 1, 1) := by decide +kernel
theorem d_D_whatIf_71 : decode c_D_whatIf 71 = .ok (.iload_n 2, 1) := by decide +kernel
theorem d_D_whatIf_72 : decode c_D_whatIf 72 = .ok (.invokevirtual 210, 3) := by decide +kernel
theorem d_D_whatIf_75 : decode c_D_whatIf 75 = .ok (.aload_n 0, 1) := by decide +kernel
theorem d_D_whatIf_76 : decode c_D_whatIf 76 = .ok (.getfield 35, 3) := by decide +kernel
theorem d_D_whatIf_79 : decode c_D_whatIf 79 = .ok (.getfield 163, 3) := by decide +kernel
theorem d_D_whatIf_82 : decode c_D_whatIf 82 = .ok (.iload_n 3, 1) := by decide +kernel
theorem d_D_whatIf_83 : decode c_D_whatIf 83 = .ok (.bipush 40, 2) := by decide +kernel
theorem d_D_whatIf_85 : decode c_D_whatIf 85 = .ok (.imul, 1) := by decide +kernel
theorem d_D_whatIf_86 : decode c_D_whatIf 86 = .ok (.iload_n 1, 1) := by decide +kernel
theorem d_D_whatIf_87 : decode c_D_whatIf 87 = .ok (.iadd, 1) := by decide +kernel
theorem d_D_whatIf_88 : decode c_D_whatIf 88 = .ok (.iaload, 1) := by decide +kernel
theorem d_D_whatIf_89 : decode c_D_whatIf 89 = .ok (.ireturn, 1) := by decide +kernel
theorem d_D_window_0 : decode c_D_window 0 = .ok (.aload_n 0, 1) := by decide +kernel
theorem d_D_window_1 : decode c_D_window 1 = .ok (.getfield 26, 3) := by decide +kernel
theorem d_D_window_4 : decode c_D_window 4 = .ok (.iload_n 1, 1) := by decide +kernel
theorem d_D_window_5 : decode c_D_window 5 = .ok (.invokevirtual 107, 3) := by decide +kernel
theorem d_D_window_8 : decode c_D_window 8 = .ok (.ifCond .eq 25, 3) := by decide +kernel
theorem d_D_window_11 : decode c_D_window 11 = .ok (.aload_n 0, 1) := by decide +kernel
theorem d_D_window_12 : decode c_D_window 12 = .ok (.getfield 26, 3) := by decide +kernel
theorem d_D_window_15 : decode c_D_window 15 = .ok (.getfield 178, 3) := by decide +kernel
theorem d_D_window_18 : decode c_D_window 18 = .ok (.iload_n 1, 1) := by decide +kernel
theorem d_D_window_19 : decode c_D_window 19 = .ok (.iaload, 1) := by decide +kernel
theorem d_D_window_20 : decode c_D_window 20 = .ok (.iconst 3, 1) := by decide +kernel
theorem d_D_window_21 : decode c_D_window 21 = .ok (.if_icmp .ne 12, 3) := by decide +kernel
theorem d_D_window_24 : decode c_D_window 24 = .ok (.iload_n 2, 1) := by decide +kernel
theorem d_D_window_25 : decode c_D_window 25 = .ok (.bipush 9, 2) := by decide +kernel
theorem d_D_window_27 : decode c_D_window 27 = .ok (.invokestatic 52, 3) := by decide +kernel
theorem d_D_window_30 : decode c_D_window 30 = .ok (.ifCond .ne 13, 3) := by decide +kernel
theorem d_D_window_33 : decode c_D_window 33 = .ok (.new 55, 3) := by decide +kernel
theorem d_D_window_36 : decode c_D_window 36 = .ok (.dup, 1) := by decide +kernel
theorem d_D_window_37 : decode c_D_window 37 = .ok (.ldc 181, 2) := by decide +kernel
theorem d_D_window_39 : decode c_D_window 39 = .ok (.invokespecial 59, 3) := by decide +kernel
theorem d_D_window_42 : decode c_D_window 42 = .ok (.athrow, 1) := by decide +kernel
theorem d_D_window_43 : decode c_D_window 43 = .ok (.aload_n 0, 1) := by decide +kernel
theorem d_D_window_44 : decode c_D_window 44 = .ok (.getfield 35, 3) := by decide +kernel
theorem d_D_window_47 : decode c_D_window 47 = .ok (.aload_n 0, 1) := by decide +kernel
theorem d_D_window_48 : decode c_D_window 48 = .ok (.getfield 26, 3) := by decide +kernel
theorem d_D_window_51 : decode c_D_window 51 = .ok (.getfield 113, 3) := by decide +kernel
theorem d_D_window_54 : decode c_D_window 54 = .ok (.iload_n 1, 1) := by decide +kernel
theorem d_D_window_55 : decode c_D_window 55 = .ok (.iaload, 1) := by decide +kernel
theorem d_D_window_56 : decode c_D_window 56 = .ok (.invokevirtual 154, 3) := by decide +kernel
theorem d_D_window_59 : decode c_D_window 59 = .ok (.aload_n 0, 1) := by decide +kernel
theorem d_D_window_60 : decode c_D_window 60 = .ok (.getfield 35, 3) := by decide +kernel
theorem d_D_window_63 : decode c_D_window 63 = .ok (.getfield 183, 3) := by decide +kernel
theorem d_D_window_66 : decode c_D_window 66 = .ok (.iload_n 1, 1) := by decide +kernel
theorem d_D_window_67 : decode c_D_window 67 = .ok (.bipush 10, 2) := by decide +kernel
theorem d_D_window_69 : decode c_D_window 69 = .ok (.imul, 1) := by decide +kernel
theorem d_D_window_70 : decode c_D_window 70 = .ok (.iload_n 2, 1) := by decide +kernel
theorem d_D_window_71 : decode c_D_window 71 = .ok (.iadd, 1) := by decide +kernel
theorem d_D_window_72 : decode c_D_window 72 = .ok (.iaload, 1) := by decide +kernel
theorem d_D_window_73 : decode c_D_window 73 = .ok (.ireturn, 1) := by decide +kernel
theorem d_D_year_0 : decode c_D_year 0 = .ok (.iload_n 1, 1) := by decide +kernel
theorem d_D_year_1 : decode c_D_year 1 = .ok (.iconst 4, 1) := by decide +kernel
theorem d_D_year_2 : decode c_D_year 2 = .ok (.invokestatic 47, 3) := by decide +kernel
theorem d_D_year_5 : decode c_D_year 5 = .ok (.ifCond .ne 13, 3) := by decide +kernel
theorem d_D_year_8 : decode c_D_year 8 = .ok (.new 55, 3) := by decide +kernel
theorem d_D_year_11 : decode c_D_year 11 = .ok (.dup, 1) := by decide +kernel
theorem d_D_year_12 : decode c_D_year 12 = .ok (.ldc 220, 2) := by decide +kernel
theorem d_D_year_14 : decode c_D_year 14 = .ok (.invokespecial 59, 3) := by decide +kernel
theorem d_D_year_17 : decode c_D_year 17 = .ok (.athrow, 1) := by decide +kernel
theorem d_D_year_18 : decode c_D_year 18 = .ok (.aload_n 0, 1) := by decide +kernel
theorem d_D_year_19 : decode c_D_year 19 = .ok (.getfield 39, 3) := by decide +kernel
theorem d_D_year_22 : decode c_D_year 22 = .ok (.iload_n 1, 1) := by decide +kernel
theorem d_D_year_23 : decode c_D_year 23 = .ok (.baload, 1) := by decide +kernel
theorem d_D_year_24 : decode c_D_year 24 = .ok (.iload_n 2, 1) := by decide +kernel
theorem d_D_year_25 : decode c_D_year 25 = .ok (.if_icmp .eq 13, 3) := by decide +kernel
theorem d_D_year_28 : decode c_D_year 28 = .ok (.new 66, 3) := by decide +kernel
theorem d_D_year_31 : decode c_D_year 31 = .ok (.dup, 1) := by decide +kernel
theorem d_D_year_32 : decode c_D_year 32 = .ok (.ldc 222, 2) := by decide +kernel
theorem d_D_year_34 : decode c_D_year 34 = .ok (.invokespecial 70, 3) := by decide +kernel
theorem d_D_year_37 : decode c_D_year 37 = .ok (.athrow, 1) := by decide +kernel
theorem d_D_year_38 : decode c_D_year 38 = .ok (.aload_n 0, 1) := by decide +kernel
theorem d_D_year_39 : decode c_D_year 39 = .ok (.getfield 39, 3) := by decide +kernel
theorem d_D_year_42 : decode c_D_year 42 = .ok (.iload_n 1, 1) := by decide +kernel
theorem d_D_year_43 : decode c_D_year 43 = .ok (.iload_n 2, 1) := by decide +kernel
theorem d_D_year_44 : decode c_D_year 44 = .ok (.ifCond .ne 7, 3) := by decide +kernel
theorem d_D_year_47 : decode c_D_year 47 = .ok (.iconst 1, 1) := by decide +kernel
theorem d_D_year_48 : decode c_D_year 48 = .ok (.goto 4, 3) := by decide +kernel
theorem d_D_year_51 : decode c_D_year 51 = .ok (.iconst 0, 1) := by decide +kernel
theorem d_D_year_52 : decode c_D_year 52 = .ok (.bastore, 1) := by decide +kernel
theorem d_D_year_53 : decode c_D_year 53 = .ok (.return_, 1) := by decide +kernel
