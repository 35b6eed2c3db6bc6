/-! what the bytes say -/
theorem d_L_bill_0 : decode c_L_bill 0 = .ok (.aload_n 2, 1) := by decide +kernel
theorem d_L_bill_1 : decode c_L_bill 1 = .ok (.iconst 0, 1) := by decide +kernel
theorem d_L_bill_2 : decode c_L_bill 2 = .ok (.aload_n 0, 1) := by decide +kernel
theorem d_L_bill_3 : decode c_L_bill 3 = .ok (.iload_n 1, 1) := by decide +kernel
theorem d_L_bill_4 : decode c_L_bill 4 = .ok (.invokevirtual 68, 3) := by decide +kernel
theorem d_L_bill_7 : decode c_L_bill 7 = .ok (.lastore, 1) := by decide +kernel
theorem d_L_bill_8 : decode c_L_bill 8 = .ok (.goto 6, 3) := by decide +kernel
theorem d_L_bill_11 : decode c_L_bill 11 = .ok (.astore_n 3, 1) := by decide +kernel
theorem d_L_bill_12 : decode c_L_bill 12 = .ok (.iconst 1, 1) := by decide +kernel
theorem d_L_bill_13 : decode c_L_bill 13 = .ok (.ireturn, 1) := by decide +kernel
theorem d_L_bill_14 : decode c_L_bill 14 = .ok (.iconst 0, 1) := by decide +kernel
theorem d_L_bill_15 : decode c_L_bill 15 = .ok (.ireturn, 1) := by decide +kernel
theorem d_L_ceded_0 : decode c_L_ceded 0 = .ok (.aload_n 3, 1) := by decide +kernel
theorem d_L_ceded_1 : decode c_L_ceded 1 = .ok (.iconst 0, 1) := by decide +kernel
theorem d_L_ceded_2 : decode c_L_ceded 2 = .ok (.aload_n 0, 1) := by decide +kernel
theorem d_L_ceded_3 : decode c_L_ceded 3 = .ok (.iload_n 1, 1) := by decide +kernel
theorem d_L_ceded_4 : decode c_L_ceded 4 = .ok (.iload_n 2, 1) := by decide +kernel
theorem d_L_ceded_5 : decode c_L_ceded 5 = .ok (.invokevirtual 47, 3) := by decide +kernel
theorem d_L_ceded_8 : decode c_L_ceded 8 = .ok (.i2l, 1) := by decide +kernel
theorem d_L_ceded_9 : decode c_L_ceded 9 = .ok (.lastore, 1) := by decide +kernel
theorem d_L_ceded_10 : decode c_L_ceded 10 = .ok (.goto 7, 3) := by decide +kernel
theorem d_L_ceded_13 : decode c_L_ceded 13 = .ok (.astore 4, 2) := by decide +kernel
theorem d_L_ceded_15 : decode c_L_ceded 15 = .ok (.iconst 1, 1) := by decide +kernel
theorem d_L_ceded_16 : decode c_L_ceded 16 = .ok (.ireturn, 1) := by decide +kernel
theorem d_L_ceded_17 : decode c_L_ceded 17 = .ok (.iconst 0, 1) := by decide +kernel
theorem d_L_ceded_18 : decode c_L_ceded 18 = .ok (.ireturn, 1) := by decide +kernel
theorem d_L_claim_0 : decode c_L_claim 0 = .ok (.aload 4, 2) := by decide +kernel
theorem d_L_claim_2 : decode c_L_claim 2 = .ok (.iconst 0, 1) := by decide +kernel
theorem d_L_claim_3 : decode c_L_claim 3 = .ok (.aload_n 0, 1) := by decide +kernel
theorem d_L_claim_4 : decode c_L_claim 4 = .ok (.iload_n 1, 1) := by decide +kernel
theorem d_L_claim_5 : decode c_L_claim 5 = .ok (.iload_n 2, 1) := by decide +kernel
theorem d_L_claim_6 : decode c_L_claim 6 = .ok (.iload_n 3, 1) := by decide +kernel
theorem d_L_claim_7 : decode c_L_claim 7 = .ok (.invokevirtual 28, 3) := by decide +kernel
theorem d_L_claim_10 : decode c_L_claim 10 = .ok (.i2l, 1) := by decide +kernel
theorem d_L_claim_11 : decode c_L_claim 11 = .ok (.lastore, 1) := by decide +kernel
theorem d_L_claim_12 : decode c_L_claim 12 = .ok (.goto 11, 3) := by decide +kernel
theorem d_L_claim_15 : decode c_L_claim 15 = .ok (.astore 5, 2) := by decide +kernel
theorem d_L_claim_17 : decode c_L_claim 17 = .ok (.iconst 1, 1) := by decide +kernel
theorem d_L_claim_18 : decode c_L_claim 18 = .ok (.ireturn, 1) := by decide +kernel
theorem d_L_claim_19 : decode c_L_claim 19 = .ok (.astore 5, 2) := by decide +kernel
theorem d_L_claim_21 : decode c_L_claim 21 = .ok (.iconst 2, 1) := by decide +kernel
theorem d_L_claim_22 : decode c_L_claim 22 = .ok (.ireturn, 1) := by decide +kernel
theorem d_L_claim_23 : decode c_L_claim 23 = .ok (.iconst 0, 1) := by decide +kernel
theorem d_L_claim_24 : decode c_L_claim 24 = .ok (.ireturn, 1) := by decide +kernel
theorem d_L_dissolve_0 : decode c_L_dissolve 0 = .ok (.aload_n 3, 1) := by decide +kernel
theorem d_L_dissolve_1 : decode c_L_dissolve 1 = .ok (.iconst 0, 1) := by decide +kernel
theorem d_L_dissolve_2 : decode c_L_dissolve 2 = .ok (.aload_n 0, 1) := by decide +kernel
theorem d_L_dissolve_3 : decode c_L_dissolve 3 = .ok (.iload_n 1, 1) := by decide +kernel
theorem d_L_dissolve_4 : decode c_L_dissolve 4 = .ok (.iload_n 2, 1) := by decide +kernel
theorem d_L_dissolve_5 : decode c_L_dissolve 5 = .ok (.invokevirtual 39, 3) := by decide +kernel
theorem d_L_dissolve_8 : decode c_L_dissolve 8 = .ok (.i2l, 1) := by decide +kernel
theorem d_L_dissolve_9 : decode c_L_dissolve 9 = .ok (.lastore, 1) := by decide +kernel
theorem d_L_dissolve_10 : decode c_L_dissolve 10 = .ok (.goto 11, 3) := by decide +kernel
theorem d_L_dissolve_13 : decode c_L_dissolve 13 = .ok (.astore 4, 2) := by decide +kernel
theorem d_L_dissolve_15 : decode c_L_dissolve 15 = .ok (.iconst 1, 1) := by decide +kernel
theorem d_L_dissolve_16 : decode c_L_dissolve 16 = .ok (.ireturn, 1) := by decide +kernel
theorem d_L_dissolve_17 : decode c_L_dissolve 17 = .ok (.astore 4, 2) := by decide +kernel
theorem d_L_dissolve_19 : decode c_L_dissolve 19 = .ok (.iconst 2, 1) := by decide +kernel
theorem d_L_dissolve_20 : decode c_L_dissolve 20 = .ok (.ireturn, 1) := by decide +kernel
theorem d_L_dissolve_21 : decode c_L_dissolve 21 = .ok (.iconst 0, 1) := by decide +kernel
theorem d_L_dissolve_22 : decode c_L_dissolve 22 = .ok (.ireturn, 1) := by decide +kernel
theorem d_L_due_0 : decode c_L_due 0 = .ok (.aload 4, 2) := by decide +kernel
theorem d_L_due_2 : decode c_L_due 2 = .ok (.iconst 0, 1) := by decide +kernel
theorem d_L_due_3 : decode c_L_due 3 = .ok (.aload_n 0, 1) := by decide +kernel
theorem d_L_due_4 : decode c_L_due 4 = .ok (.iload_n 1, 1) := by decide +kernel
theorem d_L_due_5 : decode c_L_due 5 = .ok (.iload_n 2, 1) := by decide +kernel
theorem d_L_due_6 : decode c_L_due 6 = .ok (.iload_n 3, 1) := by decide +kernel
theorem d_L_due_7 : decode c_L_due 7 = .ok (.invokevirtual 61, 3) := by decide +kernel
theorem d_L_due_10 : decode c_L_due 10 = .ok (.lastore, 1) := by decide +kernel
theorem d_L_due_11 : decode c_L_due 11 = .ok (.goto 7, 3) := by decide +kernel
theorem d_L_due_14 : decode c_L_due 14 = .ok (.astore 5, 2) := by decide +kernel
theorem d_L_due_16 : decode c_L_due 16 = .ok (.iconst 1, 1) := by decide +kernel
theorem d_L_due_17 : decode c_L_due 17 = .ok (.ireturn, 1) := by decide +kernel
theorem d_L_due_18 : decode c_L_due 18 = .ok (.iconst 0, 1) := by decide +kernel
theorem d_L_due_19 : decode c_L_due 19 = .ok (.ireturn, 1) := by decide +kernel
theorem d_L_estimate_0 : decode c_L_estimate 0 = .ok (.aload_n 0, 1) := by decide +kernel
theorem d_L_estimate_1 : decode c_L_estimate 1 = .ok (.iload_n 1, 1) := by decide +kernel
theorem d_L_estimate_2 : decode c_L_estimate 2 = .ok (.iload_n 2, 1) := by decide +kernel
theorem d_L_estimate_3 : decode c_L_estimate 3 = .ok (.invokevirtual 32, 3) := by decide +kernel
theorem d_L_estimate_6 : decode c_L_estimate 6 = .ok (.goto 9, 3) := by decide +kernel
theorem d_L_estimate_9 : decode c_L_estimate 9 = .ok (.astore_n 3, 1) := by decide +kernel
theorem d_L_estimate_10 : decode c_L_estimate 10 = .ok (.iconst 1, 1) := by decide +kernel
theorem d_L_estimate_11 : decode c_L_estimate 11 = .ok (.ireturn, 1) := by decide +kernel
theorem d_L_estimate_12 : decode c_L_estimate 12 = .ok (.astore_n 3, 1) := by decide +kernel
theorem d_L_estimate_13 : decode c_L_estimate 13 = .ok (.iconst 2, 1) := by decide +kernel
theorem d_L_estimate_14 : decode c_L_estimate 14 = .ok (.ireturn, 1) := by decide +kernel
theorem d_L_estimate_15 : decode c_L_estimate 15 = .ok (.iconst 0, 1) := by decide +kernel
theorem d_L_estimate_16 : decode c_L_estimate 16 = .ok (.ireturn, 1) := by decide +kernel
theorem d_L_kept_0 : decode c_L_kept 0 = .ok (.aload_n 2, 1) := by decide +kernel
theorem d_L_kept_1 : decode c_L_kept 1 = .ok (.iconst 0, 1) := by decide +kernel
theorem d_L_kept_2 : decode c_L_kept 2 = .ok (.aload_n 0, 1) := by decide +kernel
theorem d_L_kept_3 : decode c_L_kept 3 = .ok (.iload_n 1, 1) := by decide +kernel
theorem d_L_kept_4 : decode c_L_kept 4 = .ok (.invokevirtual 43, 3) := by decide +kernel
theorem d_L_kept_7 : decode c_L_kept 7 = .ok (.i2l, 1) := by decide +kernel
theorem d_L_kept_8 : decode c_L_kept 8 = .ok (.lastore, 1) := by decide +kernel
theorem d_L_kept_9 : decode c_L_kept 9 = .ok (.goto 6, 3) := by decide +kernel
theorem d_L_kept_12 : decode c_L_kept 12 = .ok (.astore_n 3, 1) := by decide +kernel
theorem d_L_kept_13 : decode c_L_kept 13 = .ok (.iconst 1, 1) := by decide +kernel
theorem d_L_kept_14 : decode c_L_kept 14 = .ok (.ireturn, 1) := by decide +kernel
theorem d_L_kept_15 : decode c_L_kept 15 = .ok (.iconst 0, 1) := by decide +kernel
theorem d_L_kept_16 : decode c_L_kept 16 = .ok (.ireturn, 1) := by decide +kernel
theorem d_L_left_0 : decode c_L_left 0 = .ok (.aload_n 2, 1) := by decide +kernel
theorem d_L_left_1 : decode c_L_left 1 = .ok (.iconst 0, 1) := by decide +kernel
theorem d_L_left_2 : decode c_L_left 2 = .ok (.aload_n 0, 1) := by decide +kernel
theorem d_L_left_3 : decode c_L_left 3 = .ok (.iload_n 1, 1) := by decide +kernel
theorem d_L_left_4 : decode c_L_left 4 = .ok (.invokevirtual 50, 3) := by decide +kernel
theorem d_L_left_7 : decode c_L_left 7 = .ok (.lastore, 1) := by decide +kernel
theorem d_L_left_8 : decode c_L_left 8 = .ok (.goto 6, 3) := by decide +kernel
theorem d_L_left_11 : decode c_L_left 11 = .ok (.astore_n 3, 1) := by decide +kernel
theorem d_L_left_12 : decode c_L_left 12 = .ok (.iconst 1, 1) := by decide +kernel
theorem d_L_left_13 : decode c_L_left 13 = .ok (.ireturn, 1) := by decide +kernel
theorem d_L_left_14 : decode c_L_left 14 = .ok (.iconst 0, 1) := by decide +kernel
theorem d_L_left_15 : decode c_L_left 15 = .ok (.ireturn, 1) := by decide +kernel
theorem d_L_premium_0 : decode c_L_premium 0 = .ok (.aload_n 0, 1) := by decide +kernel
theorem d_L_premium_1 : decode c_L_premium 1 = .ok (.iload_n 1, 1) := by decide +kernel
theorem d_L_premium_2 : decode c_L_premium 2 = .ok (.iload_n 2, 1) := by decide +kernel
theorem d_L_premium_3 : decode c_L_premium 3 = .ok (.invokevirtual 17, 3) := by decide +kernel
theorem d_L_premium_6 : decode c_L_premium 6 = .ok (.goto 9, 3) := by decide +kernel
theorem d_L_premium_9 : decode c_L_premium 9 = .ok (.astore_n 3, 1) := by decide +kernel
theorem d_L_premium_10 : decode c_L_premium 10 = .ok (.iconst 1, 1) := by decide +kernel
theorem d_L_premium_11 : decode c_L_premium 11 = .ok (.ireturn, 1) := by decide +kernel
theorem d_L_premium_12 : decode c_L_premium 12 = .ok (.astore_n 3, 1) := by decide +kernel
theorem d_L_premium_13 : decode c_L_premium 13 = .ok (.iconst 2, 1) := by decide +kernel
theorem d_L_premium_14 : decode c_L_premium 14 = .ok (.ireturn, 1) := by decide +kernel
theorem d_L_premium_15 : decode c_L_premium 15 = .ok (.iconst 0, 1) := by decide +kernel
theorem d_L_premium_16 : decode c_L_premium 16 = .ok (.ireturn, 1) := by decide +kernel
theorem d_L_risk_0 : decode c_L_risk 0 = .ok (.aload_n 0, 1) := by decide +kernel
theorem d_L_risk_1 : decode c_L_risk 1 = .ok (.iload_n 1, 1) := by decide +kernel
theorem d_L_risk_2 : decode c_L_risk 2 = .ok (.iload_n 2, 1) := by decide +kernel
theorem d_L_risk_3 : decode c_L_risk 3 = .ok (.iload_n 3, 1) := by decide +kernel
theorem d_L_risk_4 : decode c_L_risk 4 = .ok (.invokevirtual 7, 3) := by decide +kernel
theorem d_L_risk_7 : decode c_L_risk 7 = .ok (.goto 11, 3) := by decide +kernel
theorem d_L_risk_10 : decode c_L_risk 10 = .ok (.astore 4, 2) := by decide +kernel
theorem d_L_risk_12 : decode c_L_risk 12 = .ok (.iconst 1, 1) := by decide +kernel
theorem d_L_risk_13 : decode c_L_risk 13 = .ok (.ireturn, 1) := by decide +kernel
theorem d_L_risk_14 : decode c_L_risk 14 = .ok (.astore 4, 2) := by decide +kernel
theorem d_L_risk_16 : decode c_L_risk 16 = .ok (.iconst 2, 1) := by decide +kernel
theorem d_L_risk_17 : decode c_L_risk 17 = .ok (.ireturn, 1) := by decide +kernel
theorem d_L_risk_18 : decode c_L_risk 18 = .ok (.iconst 0, 1) := by decide +kernel
theorem d_L_risk_19 : decode c_L_risk 19 = .ok (.ireturn, 1) := by decide +kernel
theorem d_L_share_0 : decode c_L_share 0 = .ok (.aload_n 0, 1) := by decide +kernel
theorem d_L_share_1 : decode c_L_share 1 = .ok (.iload_n 1, 1) := by decide +kernel
theorem d_L_share_2 : decode c_L_share 2 = .ok (.iload_n 2, 1) := by decide +kernel
theorem d_L_share_3 : decode c_L_share 3 = .ok (.iload_n 3, 1) := by decide +kernel
theorem d_L_share_4 : decode c_L_share 4 = .ok (.invokevirtual 25, 3) := by decide +kernel
theorem d_L_share_7 : decode c_L_share 7 = .ok (.goto 11, 3) := by decide +kernel
theorem d_L_share_10 : decode c_L_share 10 = .ok (.astore 4, 2) := by decide +kernel
theorem d_L_share_12 : decode c_L_share 12 = .ok (.iconst 1, 1) := by decide +kernel
theorem d_L_share_13 : decode c_L_share 13 = .ok (.ireturn, 1) := by decide +kernel
theorem d_L_share_14 : decode c_L_share 14 = .ok (.astore 4, 2) := by decide +kernel
theorem d_L_share_16 : decode c_L_share 16 = .ok (.iconst 2, 1) := by decide +kernel
theorem d_L_share_17 : decode c_L_share 17 = .ok (.ireturn, 1) := by decide +kernel
theorem d_L_share_18 : decode c_L_share 18 = .ok (.iconst 0, 1) := by decide +kernel
theorem d_L_share_19 : decode c_L_share 19 = .ok (.ireturn, 1) := by decide +kernel
theorem d_L_strike_0 : decode c_L_strike 0 = .ok (.aload_n 0, 1) := by decide +kernel
theorem d_L_strike_1 : decode c_L_strike 1 = .ok (.iload_n 1, 1) := by decide +kernel
theorem d_L_strike_2 : decode c_L_strike 2 = .ok (.invokevirtual 35, 3) := by decide +kernel
theorem d_L_strike_5 : decode c_L_strike 5 = .ok (.goto 9, 3) := by decide +kernel
theorem d_L_strike_8 : decode c_L_strike 8 = .ok (.astore_n 2, 1) := by decide +kernel
theorem d_L_strike_9 : decode c_L_strike 9 = .ok (.iconst 1, 1) := by decide +kernel
theorem d_L_strike_10 : decode c_L_strike 10 = .ok (.ireturn, 1) := by decide +kernel
theorem d_L_strike_11 : decode c_L_strike 11 = .ok (.astore_n 2, 1) := by decide +kernel
theorem d_L_strike_12 : decode c_L_strike 12 = .ok (.iconst 2, 1) := by decide +kernel
theorem d_L_strike_13 : decode c_L_strike 13 = .ok (.ireturn, 1) := by decide +kernel
theorem d_L_strike_14 : decode c_L_strike 14 = .ok (.iconst 0, 1) := by decide +kernel
theorem d_L_strike_15 : decode c_L_strike 15 = .ok (.ireturn, 1) := by decide +kernel
theorem d_L_total_0 : decode c_L_total 0 = .ok (.aload_n 3, 1) := by decide +kernel
theorem d_L_total_1 : decode c_L_total 1 = .ok (.iconst 0, 1) := by decide +kernel
theorem d_L_total_2 : decode c_L_total 2 = .ok (.aload_n 0, 1) := by decide +kernel
theorem d_L_total_3 : decode c_L_total 3 = .ok (.iload_n 1, 1) := by decide +kernel
theorem d_L_total_4 : decode c_L_total 4 = .ok (.iload_n 2, 1) := by decide +kernel
theorem d_L_total_5 : decode c_L_total 5 = .ok (.invokevirtual 57, 3) := by decide +kernel
theorem d_L_total_8 : decode c_L_total 8 = .ok (.lastore, 1) := by decide +kernel
theorem d_L_total_9 : decode c_L_total 9 = .ok (.goto 7, 3) := by decide +kernel
theorem d_L_total_12 : decode c_L_total 12 = .ok (.astore 4, 2) := by decide +kernel
theorem d_L_total_14 : decode c_L_total 14 = .ok (.iconst 1, 1) := by decide +kernel
theorem d_L_total_15 : decode c_L_total 15 = .ok (.ireturn, 1) := by decide +kernel
theorem d_L_total_16 : decode c_L_total 16 = .ok (.iconst 0, 1) := by decide +kernel
theorem d_L_total_17 : decode c_L_total 17 = .ok (.ireturn, 1) := by decide +kernel
theorem d_L_treaty_0 : decode c_L_treaty 0 = .ok (.aload 6, 2) := by decide +kernel
theorem d_L_treaty_2 : decode c_L_treaty 2 = .ok (.iconst 0, 1) := by decide +kernel
theorem d_L_treaty_3 : decode c_L_treaty 3 = .ok (.aload_n 0, 1) := by decide +kernel
theorem d_L_treaty_4 : decode c_L_treaty 4 = .ok (.iload_n 1, 1) := by decide +kernel
theorem d_L_treaty_5 : decode c_L_treaty 5 = .ok (.iload_n 2, 1) := by decide +kernel
theorem d_L_treaty_6 : decode c_L_treaty 6 = .ok (.iload_n 3, 1) := by decide +kernel
theorem d_L_treaty_7 : decode c_L_treaty 7 = .ok (.iload 4, 2) := by decide +kernel
theorem d_L_treaty_9 : decode c_L_treaty 9 = .ok (.iload 5, 2) := by decide +kernel
theorem d_L_treaty_11 : decode c_L_treaty 11 = .ok (.invokevirtual 21, 3) := by decide +kernel
theorem d_L_treaty_14 : decode c_L_treaty 14 = .ok (.i2l, 1) := by decide +kernel
theorem d_L_treaty_15 : decode c_L_treaty 15 = .ok (.lastore, 1) := by decide +kernel
theorem d_L_treaty_16 : decode c_L_treaty 16 = .ok (.goto 11, 3) := by decide +kernel
theorem d_L_treaty_19 : decode c_L_treaty 19 = .ok (.astore 7, 2) := by decide +kernel
theorem d_L_treaty_21 : decode c_L_treaty 21 = .ok (.iconst 1, 1) := by decide +kernel
theorem d_L_treaty_22 : decode c_L_treaty 22 = .ok (.ireturn, 1) := by decide +kernel
theorem d_L_treaty_23 : decode c_L_treaty 23 = .ok (.astore 7, 2) := by decide +kernel
theorem d_L_treaty_25 : decode c_L_treaty 25 = .ok (.iconst 2, 1) := by decide +kernel
theorem d_L_treaty_26 : decode c_L_treaty 26 = .ok (.ireturn, 1) := by decide +kernel
theorem d_L_treaty_27 : decode c_L_treaty 27 = .ok (.iconst 0, 1) := by decide +kernel
theorem d_L_treaty_28 : decode c_L_treaty 28 = .ok (.ireturn, 1) := by decide +kernel
theorem d_L_whatIf_0 : decode c_L_whatIf 0 = .ok (.aload 4, 2) := by decide +kernel
theorem d_L_whatIf_2 : decode c_L_whatIf 2 = .ok (.iconst 0, 1) := by decide +kernel
theorem d_L_whatIf_3 : decode c_L_whatIf 3 = .ok (.aload_n 0, 1) := by decide +kernel
theorem d_L_whatIf_4 : decode c_L_whatIf 4 = .ok (.iload_n 1, 1) := by decide +kernel
theorem d_L_whatIf_5 : decode c_L_whatIf 5 = .ok (.iload_n 2, 1) := by decide +kernel
theorem d_L_whatIf_6 : decode c_L_whatIf 6 = .ok (.iload_n 3, 1) := by decide +kernel
theorem d_L_whatIf_7 : decode c_L_whatIf 7 = .ok (.invokevirtual 65, 3) := by decide +kernel
theorem d_L_whatIf_10 : decode c_L_whatIf 10 = .ok (.i2l, 1) := by decide +kernel
theorem d_L_whatIf_11 : decode c_L_whatIf 11 = .ok (.lastore, 1) := by decide +kernel
theorem d_L_whatIf_12 : decode c_L_whatIf 12 = .ok (.goto 11, 3) := by decide +kernel
theorem d_L_whatIf_15 : decode c_L_whatIf 15 = .ok (.astore 5, 2) := by decide +kernel
theorem d_L_whatIf_17 : decode c_L_whatIf 17 = .ok (.iconst 1, 1) := by decide +kernel
theorem d_L_whatIf_18 : decode c_L_whatIf 18 = .ok (.ireturn, 1) := by decide +kernel
theorem d_L_whatIf_19 : decode c_L_whatIf 19 = .ok (.astore 5, 2) := by decide +kernel
theorem d_L_whatIf_21 : decode c_L_whatIf 21 = .ok (.iconst 2, 1) := by decide +kernel
theorem d_L_whatIf_22 : decode c_L_whatIf 22 = .ok (.ireturn, 1) := by decide +kernel
theorem d_L_whatIf_23 : decode c_L_whatIf 23 = .ok (.iconst 0, 1) := by decide +kernel
theorem d_L_whatIf_24 : decode c_L_whatIf 24 = .ok (.ireturn, 1) := by decide +kernel
theorem d_L_window_0 : decode c_L_window 0 = .ok (.aload_n 3, 1) := by decide +kernel
theorem d_L_window_1 : decode c_L_window 1 = .ok (.iconst 0, 1) := by decide +kernel
theorem d_L_window_2 : decode c_L_window 2 = .ok (.aload_n 0, 1) := by decide +kernel
theorem d_L_window_3 : decode c_L_window 3 = .ok (.iload_n 1, 1) := by decide +kernel
theorem d_L_window_4 : decode c_L_window 4 = .ok (.iload_n 2, 1) := by decide +kernel
theorem d_L_window_5 : decode c_L_window 5 = .ok (.invokevirtual 54, 3) := by decide +kernel
theorem d_L_window_8 : decode c_L_window 8 = .ok (.i2l, 1) := by decide +kernel
theorem d_L_window_9 : decode c_L_window 9 = .ok (.lastore, 1) := by decide +kernel
theorem d_L_window_10 : decode c_L_window 10 = .ok (.goto 7, 3) := by decide +kernel
theorem d_L_window_13 : decode c_L_window 13 = .ok (.astore 4, 2) := by decide +kernel
theorem d_L_window_15 : decode c_L_window 15 = .ok (.iconst 1, 1) := by decide +kernel
theorem d_L_window_16 : decode c_L_window 16 = .ok (.ireturn, 1) := by decide +kernel
theorem d_L_window_17 : decode c_L_window 17 = .ok (.iconst 0, 1) := by decide +kernel
theorem d_L_window_18 : decode c_L_window 18 = .ok (.ireturn, 1) := by decide +kernel
theorem d_L_year_0 : decode c_L_year 0 = .ok (.aload_n 0, 1) := by decide +kernel
theorem d_L_year_1 : decode c_L_year 1 = .ok (.iload_n 1, 1) := by decide +kernel
theorem d_L_year_2 : decode c_L_year 2 = .ok (.iload_n 2, 1) := by decide +kernel
theorem d_L_year_3 : decode c_L_year 3 = .ok (.invokevirtual 71, 3) := by decide +kernel
theorem d_L_year_6 : decode c_L_year 6 = .ok (.goto 9, 3) := by decide +kernel
theorem d_L_year_9 : decode c_L_year 9 = .ok (.astore_n 3, 1) := by decide +kernel
theorem d_L_year_10 : decode c_L_year 10 = .ok (.iconst 1, 1) := by decide +kernel
theorem d_L_year_11 : decode c_L_year 11 = .ok (.ireturn, 1) := by decide +kernel
theorem d_L_year_12 : decode c_L_year 12 = .ok (.astore_n 3, 1) := by decide +kernel
theorem d_L_year_13 : decode c_L_year 13 = .ok (.iconst 2, 1) := by decide +kernel
theorem d_L_year_14 : decode c_L_year 14 = .ok (.ireturn, 1) := by decide +kernel
theorem d_L_year_15 : decode c_L_year 15 = .ok (.iconst 0, 1) := by decide +kernel
theorem d_L_year_16 : decode c_L_year 16 = .ok (.ireturn, 1) := by decide +kernel
theorem d_L_law_0 : decode c_L_law 0 = .ok (.new 8, 3) := by decide +kernel
theorem d_L_law_3 : decode c_L_law 3 = .ok (.dup, 1) := by decide +kernel
theorem d_L_law_4 : decode c_L_law 4 = .ok (.invokespecial 75, 3) := by decide +kernel
theorem d_L_law_7 : decode c_L_law 7 = .ok (.astore_n 1, 1) := by decide +kernel
theorem d_L_law_8 : decode c_L_law 8 = .ok (.new 76, 3) := by decide +kernel
theorem d_L_law_11 : decode c_L_law 11 = .ok (.dup, 1) := by decide +kernel
theorem d_L_law_12 : decode c_L_law 12 = .ok (.invokespecial 78, 3) := by decide +kernel
theorem d_L_law_15 : decode c_L_law 15 = .ok (.astore_n 2, 1) := by decide +kernel
theorem d_L_law_16 : decode c_L_law 16 = .ok (.iconst 1, 1) := by decide +kernel
theorem d_L_law_17 : decode c_L_law 17 = .ok (.newarray .long, 2) := by decide +kernel
theorem d_L_law_19 : decode c_L_law 19 = .ok (.astore_n 3, 1) := by decide +kernel
theorem d_L_law_20 : decode c_L_law 20 = .ok (.iconst 0, 1) := by decide +kernel
theorem d_L_law_21 : decode c_L_law 21 = .ok (.istore 4, 2) := by decide +kernel
theorem d_L_law_23 : decode c_L_law 23 = .ok (.iload 4, 2) := by decide +kernel
theorem d_L_law_25 : decode c_L_law 25 = .ok (.aload_n 0, 1) := by decide +kernel
theorem d_L_law_26 : decode c_L_law 26 = .ok (.arraylength, 1) := by decide +kernel
theorem d_L_law_27 : decode c_L_law 27 = .ok (.bipush 6, 2) := by decide +kernel
theorem d_L_law_29 : decode c_L_law 29 = .ok (.isub, 1) := by decide +kernel
theorem d_L_law_30 : decode c_L_law 30 = .ok (.if_icmp .gt 1196, 3) := by decide +kernel
theorem d_L_law_33 : decode c_L_law 33 = .ok (.aload_n 0, 1) := by decide +kernel
theorem d_L_law_34 : decode c_L_law 34 = .ok (.iload 4, 2) := by decide +kernel
theorem d_L_law_36 : decode c_L_law 36 = .ok (.iaload, 1) := by decide +kernel
theorem d_L_law_37 : decode c_L_law 37 = .ok (.bipush 31, 2) := by decide +kernel
theorem d_L_law_39 : decode c_L_law 39 = .ok (.iand, 1) := by decide +kernel
theorem d_L_law_40 : decode c_L_law 40 = .ok (.tableswitch 1180 0 16 #[84, 144, 192, 296, 356, 436, 484, 520, 588, 644, 712, 767, 835, 902, 981, 1061, 1116], 84) := by decide +kernel
theorem d_L_law_124 : decode c_L_law 124 = .ok (.aload_n 1, 1) := by decide +kernel
theorem d_L_law_125 : decode c_L_law 125 = .ok (.aload_n 0, 1) := by decide +kernel
theorem d_L_law_126 : decode c_L_law 126 = .ok (.iload 4, 2) := by decide +kernel
theorem d_L_law_128 : decode c_L_law 128 = .ok (.iconst 1, 1) := by decide +kernel
theorem d_L_law_129 : decode c_L_law 129 = .ok (.iadd, 1) := by decide +kernel
theorem d_L_law_130 : decode c_L_law 130 = .ok (.iaload, 1) := by decide +kernel
theorem d_L_law_131 : decode c_L_law 131 = .ok (.aload_n 0, 1) := by decide +kernel
theorem d_L_law_132 : decode c_L_law 132 = .ok (.iload 4, 2) := by decide +kernel
theorem d_L_law_134 : decode c_L_law 134 = .ok (.iconst 2, 1) := by decide +kernel
theorem d_L_law_135 : decode c_L_law 135 = .ok (.iadd, 1) := by decide +kernel
theorem d_L_law_136 : decode c_L_law 136 = .ok (.iaload, 1) := by decide +kernel
theorem d_L_law_137 : decode c_L_law 137 = .ok (.aload_n 0, 1) := by decide +kernel
theorem d_L_law_138 : decode c_L_law 138 = .ok (.iload 4, 2) := by decide +kernel
theorem d_L_law_140 : decode c_L_law 140 = .ok (.iconst 3, 1) := by decide +kernel
theorem d_L_law_141 : decode c_L_law 141 = .ok (.iadd, 1) := by decide +kernel
theorem d_L_law_142 : decode c_L_law 142 = .ok (.iaload, 1) := by decide +kernel
theorem d_L_law_143 : decode c_L_law 143 = .ok (.invokestatic 79, 3) := by decide +kernel
theorem d_L_law_146 : decode c_L_law 146 = .ok (.istore 5, 2) := by decide +kernel
theorem d_L_law_148 : decode c_L_law 148 = .ok (.aload_n 2, 1) := by decide +kernel
theorem d_L_law_149 : decode c_L_law 149 = .ok (.aload_n 0, 1) := by decide +kernel
theorem d_L_law_150 : decode c_L_law 150 = .ok (.iload 4, 2) := by decide +kernel
theorem d_L_law_152 : decode c_L_law 152 = .ok (.iconst 1, 1) := by decide +kernel
theorem d_L_law_153 : decode c_L_law 153 = .ok (.iadd, 1) := by decide +kernel
theorem d_L_law_154 : decode c_L_law 154 = .ok (.iaload, 1) := by decide +kernel
theorem d_L_law_155 : decode c_L_law 155 = .ok (.aload_n 0, 1) := by decide +kernel
theorem d_L_law_156 : decode c_L_law 156 = .ok (.iload 4, 2) := by decide +kernel
theorem d_L_law_158 : decode c_L_law 158 = .ok (.iconst 2, 1) := by decide +kernel
theorem d_L_law_159 : decode c_L_law 159 = .ok (.iadd, 1) := by decide +kernel
theorem d_L_law_160 : decode c_L_law 160 = .ok (.iaload, 1) := by decide +kernel
theorem d_L_law_161 : decode c_L_law 161 = .ok (.aload_n 0, 1) := by decide +kernel
theorem d_L_law_162 : decode c_L_law 162 = .ok (.iload 4, 2) := by decide +kernel
theorem d_L_law_164 : decode c_L_law 164 = .ok (.iconst 3, 1) := by decide +kernel
theorem d_L_law_165 : decode c_L_law 165 = .ok (.iadd, 1) := by decide +kernel
theorem d_L_law_166 : decode c_L_law 166 = .ok (.iaload, 1) := by decide +kernel
theorem d_L_law_167 : decode c_L_law 167 = .ok (.invokevirtual 84, 3) := by decide +kernel
theorem d_L_law_170 : decode c_L_law 170 = .ok (.aload_n 2, 1) := by decide +kernel
theorem d_L_law_171 : decode c_L_law 171 = .ok (.invokevirtual 85, 3) := by decide +kernel
theorem d_L_law_174 : decode c_L_law 174 = .ok (.iload 5, 2) := by decide +kernel
theorem d_L_law_176 : decode c_L_law 176 = .ok (.if_icmp .eq 5, 3) := by decide +kernel
theorem d_L_law_179 : decode c_L_law 179 = .ok (.iconst 0, 1) := by decide +kernel
theorem d_L_law_180 : decode c_L_law 180 = .ok (.ireturn, 1) := by decide +kernel
theorem d_L_law_181 : decode c_L_law 181 = .ok (.goto 1039, 3) := by decide +kernel
theorem d_L_law_184 : decode c_L_law 184 = .ok (.aload_n 1, 1) := by decide +kernel
theorem d_L_law_185 : decode c_L_law 185 = .ok (.aload_n 0, 1) := by decide +kernel
theorem d_L_law_186 : decode c_L_law 186 = .ok (.iload 4, 2) := by decide +kernel
theorem d_L_law_188 : decode c_L_law 188 = .ok (.iconst 1, 1) := by decide +kernel
theorem d_L_law_189 : decode c_L_law 189 = .ok (.iadd, 1) := by decide +kernel
theorem d_L_law_190 : decode c_L_law 190 = .ok (.iaload, 1) := by decide +kernel
theorem d_L_law_191 : decode c_L_law 191 = .ok (.aload_n 0, 1) := by decide +kernel
theorem d_L_law_192 : decode c_L_law 192 = .ok (.iload 4, 2) := by decide +kernel
theorem d_L_law_194 : decode c_L_law 194 = .ok (.iconst 2, 1) := by decide +kernel
theorem d_L_law_195 : decode c_L_law 195 = .ok (.iadd, 1) := by decide +kernel
theorem d_L_law_196 : decode c_L_law 196 = .ok (.iaload, 1) := by decide +kernel
theorem d_L_law_197 : decode c_L_law 197 = .ok (.invokestatic 89, 3) := by decide +kernel
theorem d_L_law_200 : decode c_L_law 200 = .ok (.istore 5, 2) := by decide +kernel
theorem d_L_law_202 : decode c_L_law 202 = .ok (.aload_n 2, 1) := by decide +kernel
theorem d_L_law_203 : decode c_L_law 203 = .ok (.aload_n 0, 1) := by decide +kernel
theorem d_L_law_204 : decode c_L_law 204 = .ok (.iload 4, 2) := by decide +kernel
theorem d_L_law_206 : decode c_L_law 206 = .ok (.iconst 1, 1) := by decide +kernel
theorem d_L_law_207 : decode c_L_law 207 = .ok (.iadd, 1) := by decide +kernel
theorem d_L_law_208 : decode c_L_law 208 = .ok (.iaload, 1) := by decide +kernel
theorem d_L_law_209 : decode c_L_law 209 = .ok (.aload_n 0, 1) := by decide +kernel
theorem d_L_law_210 : decode c_L_law 210 = .ok (.iload 4, 2) := by decide +kernel
theorem d_L_law_212 : decode c_L_law 212 = .ok (.iconst 2, 1) := by decide +kernel
theorem d_L_law_213 : decode c_L_law 213 = .ok (.iadd, 1) := by decide +kernel
theorem d_L_law_214 : decode c_L_law 214 = .ok (.iaload, 1) := by decide +kernel
theorem d_L_law_215 : decode c_L_law 215 = .ok (.invokevirtual 92, 3) := by decide +kernel
theorem d_L_law_218 : decode c_L_law 218 = .ok (.aload_n 2, 1) := by decide +kernel
theorem d_L_law_219 : decode c_L_law 219 = .ok (.invokevirtual 85, 3) := by decide +kernel
theorem d_L_law_222 : decode c_L_law 222 = .ok (.iload 5, 2) := by decide +kernel
theorem d_L_law_224 : decode c_L_law 224 = .ok (.if_icmp .eq 5, 3) := by decide +kernel
theorem d_L_law_227 : decode c_L_law 227 = .ok (.iconst 0, 1) := by decide +kernel
theorem d_L_law_228 : decode c_L_law 228 = .ok (.ireturn, 1) := by decide +kernel
theorem d_L_law_229 : decode c_L_law 229 = .ok (.goto 991, 3) := by decide +kernel
theorem d_L_law_232 : decode c_L_law 232 = .ok (.aload_n 1, 1) := by decide +kernel
theorem d_L_law_233 : decode c_L_law 233 = .ok (.aload_n 0, 1) := by decide +kernel
theorem d_L_law_234 : decode c_L_law 234 = .ok (.iload 4, 2) := by decide +kernel
theorem d_L_law_236 : decode c_L_law 236 = .ok (.iconst 1, 1) := by decide +kernel
theorem d_L_law_237 : decode c_L_law 237 = .ok (.iadd, 1) := by decide +kernel
theorem d_L_law_238 : decode c_L_law 238 = .ok (.iaload, 1) := by decide +kernel
theorem d_L_law_239 : decode c_L_law 239 = .ok (.aload_n 0, 1) := by decide +kernel
theorem d_L_law_240 : decode c_L_law 240 = .ok (.iload 4, 2) := by decide +kernel
theorem d_L_law_242 : decode c_L_law 242 = .ok (.iconst 2, 1) := by decide +kernel
theorem d_L_law_243 : decode c_L_law 243 = .ok (.iadd, 1) := by decide +kernel
theorem d_L_law_244 : decode c_L_law 244 = .ok (.iaload, 1) := by decide +kernel
theorem d_L_law_245 : decode c_L_law 245 = .ok (.aload_n 0, 1) := by decide +kernel
theorem d_L_law_246 : decode c_L_law 246 = .ok (.iload 4, 2) := by decide +kernel
theorem d_L_law_248 : decode c_L_law 248 = .ok (.iconst 3, 1) := by decide +kernel
theorem d_L_law_249 : decode c_L_law 249 = .ok (.iadd, 1) := by decide +kernel
theorem d_L_law_250 : decode c_L_law 250 = .ok (.iaload, 1) := by decide +kernel
theorem d_L_law_251 : decode c_L_law 251 = .ok (.aload_n 0, 1) := by decide +kernel
theorem d_L_law_252 : decode c_L_law 252 = .ok (.iload 4, 2) := by decide +kernel
theorem d_L_law_254 : decode c_L_law 254 = .ok (.iconst 4, 1) := by decide +kernel
theorem d_L_law_255 : decode c_L_law 255 = .ok (.iadd, 1) := by decide +kernel
theorem d_L_law_256 : decode c_L_law 256 = .ok (.iaload, 1) := by decide +kernel
theorem d_L_law_257 : decode c_L_law 257 = .ok (.aload_n 0, 1) := by decide +kernel
theorem d_L_law_258 : decode c_L_law 258 = .ok (.iload 4, 2) := by decide +kernel
theorem d_L_law_260 : decode c_L_law 260 = .ok (.iconst 5, 1) := by decide +kernel
theorem d_L_law_261 : decode c_L_law 261 = .ok (.iadd, 1) := by decide +kernel
theorem d_L_law_262 : decode c_L_law 262 = .ok (.iaload, 1) := by decide +kernel
theorem d_L_law_263 : decode c_L_law 263 = .ok (.aload_n 3, 1) := by decide +kernel
theorem d_L_law_264 : decode c_L_law 264 = .ok (.invokestatic 93, 3) := by decide +kernel
theorem d_L_law_267 : decode c_L_law 267 = .ok (.istore 5, 2) := by decide +kernel
theorem d_L_law_269 : decode c_L_law 269 = .ok (.aload_n 2, 1) := by decide +kernel
theorem d_L_law_270 : decode c_L_law 270 = .ok (.aload_n 0, 1) := by decide +kernel
theorem d_L_law_271 : decode c_L_law 271 = .ok (.iload 4, 2) := by decide +kernel
theorem d_L_law_273 : decode c_L_law 273 = .ok (.iconst 1, 1) := by decide +kernel
theorem d_L_law_274 : decode c_L_law 274 = .ok (.iadd, 1) := by decide +kernel
theorem d_L_law_275 : decode c_L_law 275 = .ok (.iaload, 1) := by decide +kernel
theorem d_L_law_276 : decode c_L_law 276 = .ok (.aload_n 0, 1) := by decide +kernel
theorem d_L_law_277 : decode c_L_law 277 = .ok (.iload 4, 2) := by decide +kernel
theorem d_L_law_279 : decode c_L_law 279 = .ok (.iconst 2, 1) := by decide +kernel
theorem d_L_law_280 : decode c_L_law 280 = .ok (.iadd, 1) := by decide +kernel
theorem d_L_law_281 : decode c_L_law 281 = .ok (.iaload, 1) := by decide +kernel
theorem d_L_law_282 : decode c_L_law 282 = .ok (.aload_n 0, 1) := by decide +kernel
theorem d_L_law_283 : decode c_L_law 283 = .ok (.iload 4, 2) := by decide +kernel
theorem d_L_law_285 : decode c_L_law 285 = .ok (.iconst 3, 1) := by decide +kernel
theorem d_L_law_286 : decode c_L_law 286 = .ok (.iadd, 1) := by decide +kernel
theorem d_L_law_287 : decode c_L_law 287 = .ok (.iaload, 1) := by decide +kernel
theorem d_L_law_288 : decode c_L_law 288 = .ok (.aload_n 0, 1) := by decide +kernel
theorem d_L_law_289 : decode c_L_law 289 = .ok (.iload 4, 2) := by decide +kernel
theorem d_L_law_291 : decode c_L_law 291 = .ok (.iconst 4, 1) := by decide +kernel
theorem d_L_law_292 : decode c_L_law 292 = .ok (.iadd, 1) := by decide +kernel
theorem d_L_law_293 : decode c_L_law 293 = .ok (.iaload, 1) := by decide +kernel
theorem d_L_law_294 : decode c_L_law 294 = .ok (.aload_n 0, 1) := by decide +kernel
theorem d_L_law_295 : decode c_L_law 295 = .ok (.iload 4, 2) := by decide +kernel
theorem d_L_law_297 : decode c_L_law 297 = .ok (.iconst 5, 1) := by decide +kernel
theorem d_L_law_298 : decode c_L_law 298 = .ok (.iadd, 1) := by decide +kernel
theorem d_L_law_299 : decode c_L_law 299 = .ok (.iaload, 1) := by decide +kernel
theorem d_L_law_300 : decode c_L_law 300 = .ok (.invokevirtual 96, 3) := by decide +kernel
theorem d_L_law_303 : decode c_L_law 303 = .ok (.istore 6, 2) := by decide +kernel
theorem d_L_law_305 : decode c_L_law 305 = .ok (.aload_n 2, 1) := by decide +kernel
theorem d_L_law_306 : decode c_L_law 306 = .ok (.invokevirtual 85, 3) := by decide +kernel
theorem d_L_law_309 : decode c_L_law 309 = .ok (.iload 5, 2) := by decide +kernel
theorem d_L_law_311 : decode c_L_law 311 = .ok (.if_icmp .eq 5, 3) := by decide +kernel
theorem d_L_law_314 : decode c_L_law 314 = .ok (.iconst 0, 1) := by decide +kernel
theorem d_L_law_315 : decode c_L_law 315 = .ok (.ireturn, 1) := by decide +kernel
theorem d_L_law_316 : decode c_L_law 316 = .ok (.iload 5, 2) := by decide +kernel
theorem d_L_law_318 : decode c_L_law 318 = .ok (.ifCond .ne 15, 3) := by decide +kernel
theorem d_L_law_321 : decode c_L_law 321 = .ok (.aload_n 3, 1) := by decide +kernel
theorem d_L_law_322 : decode c_L_law 322 = .ok (.iconst 0, 1) := by decide +kernel
theorem d_L_law_323 : decode c_L_law 323 = .ok (.laload, 1) := by decide +kernel
theorem d_L_law_324 : decode c_L_law 324 = .ok (.iload 6, 2) := by decide +kernel
theorem d_L_law_326 : decode c_L_law 326 = .ok (.i2l, 1) := by decide +kernel
theorem d_L_law_327 : decode c_L_law 327 = .ok (.lcmp, 1) := by decide +kernel
theorem d_L_law_328 : decode c_L_law 328 = .ok (.ifCond .eq 5, 3) := by decide +kernel
theorem d_L_law_331 : decode c_L_law 331 = .ok (.iconst 0, 1) := by decide +kernel
theorem d_L_law_332 : decode c_L_law 332 = .ok (.ireturn, 1) := by decide +kernel
theorem d_L_law_333 : decode c_L_law 333 = .ok (.goto 887, 3) := by decide +kernel
theorem d_L_law_336 : decode c_L_law 336 = .ok (.aload_n 1, 1) := by decide +kernel
theorem d_L_law_337 : decode c_L_law 337 = .ok (.aload_n 0, 1) := by decide +kernel
theorem d_L_law_338 : decode c_L_law 338 = .ok (.iload 4, 2) := by decide +kernel
theorem d_L_law_340 : decode c_L_law 340 = .ok (.iconst 1, 1) := by decide +kernel
theorem d_L_law_341 : decode c_L_law 341 = .ok (.iadd, 1) := by decide +kernel
theorem d_L_law_342 : decode c_L_law 342 = .ok (.iaload, 1) := by decide +kernel
theorem d_L_law_343 : decode c_L_law 343 = .ok (.aload_n 0, 1) := by decide +kernel
theorem d_L_law_344 : decode c_L_law 344 = .ok (.iload 4, 2) := by decide +kernel
theorem d_L_law_346 : decode c_L_law 346 = .ok (.iconst 2, 1) := by decide +kernel
theorem d_L_law_347 : decode c_L_law 347 = .ok (.iadd, 1) := by decide +kernel
theorem d_L_law_348 : decode c_L_law 348 = .ok (.iaload, 1) := by decide +kernel
theorem d_L_law_349 : decode c_L_law 349 = .ok (.aload_n 0, 1) := by decide +kernel
theorem d_L_law_350 : decode c_L_law 350 = .ok (.iload 4, 2) := by decide +kernel
theorem d_L_law_352 : decode c_L_law 352 = .ok (.iconst 3, 1) := by decide +kernel
theorem d_L_law_353 : decode c_L_law 353 = .ok (.iadd, 1) := by decide +kernel
theorem d_L_law_354 : decode c_L_law 354 = .ok (.iaload, 1) := by decide +kernel
theorem d_L_law_355 : decode c_L_law 355 = .ok (.invokestatic 97, 3) := by decide +kernel
theorem d_L_law_358 : decode c_L_law 358 = .ok (.istore 5, 2) := by decide +kernel
theorem d_L_law_360 : decode c_L_law 360 = .ok (.aload_n 2, 1) := by decide +kernel
theorem d_L_law_361 : decode c_L_law 361 = .ok (.aload_n 0, 1) := by decide +kernel
theorem d_L_law_362 : decode c_L_law 362 = .ok (.iload 4, 2) := by decide +kernel
theorem d_L_law_364 : decode c_L_law 364 = .ok (.iconst 1, 1) := by decide +kernel
theorem d_L_law_365 : decode c_L_law 365 = .ok (.iadd, 1) := by decide +kernel
theorem d_L_law_366 : decode c_L_law 366 = .ok (.iaload, 1) := by decide +kernel
theorem d_L_law_367 : decode c_L_law 367 = .ok (.aload_n 0, 1) := by decide +kernel
theorem d_L_law_368 : decode c_L_law 368 = .ok (.iload 4, 2) := by decide +kernel
theorem d_L_law_370 : decode c_L_law 370 = .ok (.iconst 2, 1) := by decide +kernel
theorem d_L_law_371 : decode c_L_law 371 = .ok (.iadd, 1) := by decide +kernel
theorem d_L_law_372 : decode c_L_law 372 = .ok (.iaload, 1) := by decide +kernel
theorem d_L_law_373 : decode c_L_law 373 = .ok (.aload_n 0, 1) := by decide +kernel
theorem d_L_law_374 : decode c_L_law 374 = .ok (.iload 4, 2) := by decide +kernel
theorem d_L_law_376 : decode c_L_law 376 = .ok (.iconst 3, 1) := by decide +kernel
theorem d_L_law_377 : decode c_L_law 377 = .ok (.iadd, 1) := by decide +kernel
theorem d_L_law_378 : decode c_L_law 378 = .ok (.iaload, 1) := by decide +kernel
theorem d_L_law_379 : decode c_L_law 379 = .ok (.invokevirtual 99, 3) := by decide +kernel
theorem d_L_law_382 : decode c_L_law 382 = .ok (.aload_n 2, 1) := by decide +kernel
theorem d_L_law_383 : decode c_L_law 383 = .ok (.invokevirtual 85, 3) := by decide +kernel
theorem d_L_law_386 : decode c_L_law 386 = .ok (.iload 5, 2) := by decide +kernel
theorem d_L_law_388 : decode c_L_law 388 = .ok (.if_icmp .eq 5, 3) := by decide +kernel
theorem d_L_law_391 : decode c_L_law 391 = .ok (.iconst 0, 1) := by decide +kernel
theorem d_L_law_392 : decode c_L_law 392 = .ok (.ireturn, 1) := by decide +kernel
theorem d_L_law_393 : decode c_L_law 393 = .ok (.goto 827, 3) := by decide +kernel
theorem d_L_law_396 : decode c_L_law 396 = .ok (.aload_n 1, 1) := by decide +kernel
theorem d_L_law_397 : decode c_L_law 397 = .ok (.aload_n 0, 1) := by decide +kernel
theorem d_L_law_398 : decode c_L_law 398 = .ok (.iload 4, 2) := by decide +kernel
theorem d_L_law_400 : decode c_L_law 400 = .ok (.iconst 1, 1) := by decide +kernel
theorem d_L_law_401 : decode c_L_law 401 = .ok (.iadd, 1) := by decide +kernel
theorem d_L_law_402 : decode c_L_law 402 = .ok (.iaload, 1) := by decide +kernel
theorem d_L_law_403 : decode c_L_law 403 = .ok (.aload_n 0, 1) := by decide +kernel
theorem d_L_law_404 : decode c_L_law 404 = .ok (.iload 4, 2) := by decide +kernel
theorem d_L_law_406 : decode c_L_law 406 = .ok (.iconst 2, 1) := by decide +kernel
theorem d_L_law_407 : decode c_L_law 407 = .ok (.iadd, 1) := by decide +kernel
theorem d_L_law_408 : decode c_L_law 408 = .ok (.iaload, 1) := by decide +kernel
theorem d_L_law_409 : decode c_L_law 409 = .ok (.aload_n 0, 1) := by decide +kernel
theorem d_L_law_410 : decode c_L_law 410 = .ok (.iload 4, 2) := by decide +kernel
theorem d_L_law_412 : decode c_L_law 412 = .ok (.iconst 3, 1) := by decide +kernel
theorem d_L_law_413 : decode c_L_law 413 = .ok (.iadd, 1) := by decide +kernel
theorem d_L_law_414 : decode c_L_law 414 = .ok (.iaload, 1) := by decide +kernel
theorem d_L_law_415 : decode c_L_law 415 = .ok (.aload_n 3, 1) := by decide +kernel
theorem d_L_law_416 : decode c_L_law 416 = .ok (.invokestatic 100, 3) := by decide +kernel
theorem d_L_law_419 : decode c_L_law 419 = .ok (.istore 5, 2) := by decide +kernel
theorem d_L_law_421 : decode c_L_law 421 = .ok (.aload_n 2, 1) := by decide +kernel
theorem d_L_law_422 : decode c_L_law 422 = .ok (.aload_n 0, 1) := by decide +kernel
theorem d_L_law_423 : decode c_L_law 423 = .ok (.iload 4, 2) := by decide +kernel
theorem d_L_law_425 : decode c_L_law 425 = .ok (.iconst 1, 1) := by decide +kernel
theorem d_L_law_426 : decode c_L_law 426 = .ok (.iadd, 1) := by decide +kernel
theorem d_L_law_427 : decode c_L_law 427 = .ok (.iaload, 1) := by decide +kernel
theorem d_L_law_428 : decode c_L_law 428 = .ok (.aload_n 0, 1) := by decide +kernel
theorem d_L_law_429 : decode c_L_law 429 = .ok (.iload 4, 2) := by decide +kernel
theorem d_L_law_431 : decode c_L_law 431 = .ok (.iconst 2, 1) := by decide +kernel
theorem d_L_law_432 : decode c_L_law 432 = .ok (.iadd, 1) := by decide +kernel
theorem d_L_law_433 : decode c_L_law 433 = .ok (.iaload, 1) := by decide +kernel
theorem d_L_law_434 : decode c_L_law 434 = .ok (.aload_n 0, 1) := by decide +kernel
theorem d_L_law_435 : decode c_L_law 435 = .ok (.iload 4, 2) := by decide +kernel
theorem d_L_law_437 : decode c_L_law 437 = .ok (.iconst 3, 1) := by decide +kernel
theorem d_L_law_438 : decode c_L_law 438 = .ok (.iadd, 1) := by decide +kernel
theorem d_L_law_439 : decode c_L_law 439 = .ok (.iaload, 1) := by decide +kernel
theorem d_L_law_440 : decode c_L_law 440 = .ok (.invokevirtual 103, 3) := by decide +kernel
theorem d_L_law_443 : decode c_L_law 443 = .ok (.istore 6, 2) := by decide +kernel
theorem d_L_law_445 : decode c_L_law 445 = .ok (.aload_n 2, 1) := by decide +kernel
theorem d_L_law_446 : decode c_L_law 446 = .ok (.invokevirtual 85, 3) := by decide +kernel
theorem d_L_law_449 : decode c_L_law 449 = .ok (.iload 5, 2) := by decide +kernel
theorem d_L_law_451 : decode c_L_law 451 = .ok (.if_icmp .eq 5, 3) := by decide +kernel
theorem d_L_law_454 : decode c_L_law 454 = .ok (.iconst 0, 1) := by decide +kernel
theorem d_L_law_455 : decode c_L_law 455 = .ok (.ireturn, 1) := by decide +kernel
theorem d_L_law_456 : decode c_L_law 456 = .ok (.iload 5, 2) := by decide +kernel
theorem d_L_law_458 : decode c_L_law 458 = .ok (.ifCond .ne 15, 3) := by decide +kernel
theorem d_L_law_461 : decode c_L_law 461 = .ok (.aload_n 3, 1) := by decide +kernel
theorem d_L_law_462 : decode c_L_law 462 = .ok (.iconst 0, 1) := by decide +kernel
theorem d_L_law_463 : decode c_L_law 463 = .ok (.laload, 1) := by decide +kernel
theorem d_L_law_464 : decode c_L_law 464 = .ok (.iload 6, 2) := by decide +kernel
theorem d_L_law_466 : decode c_L_law 466 = .ok (.i2l, 1) := by decide +kernel
theorem d_L_law_467 : decode c_L_law 467 = .ok (.lcmp, 1) := by decide +kernel
theorem d_L_law_468 : decode c_L_law 468 = .ok (.ifCond .eq 5, 3) := by decide +kernel
theorem d_L_law_471 : decode c_L_law 471 = .ok (.iconst 0, 1) := by decide +kernel
theorem d_L_law_472 : decode c_L_law 472 = .ok (.ireturn, 1) := by decide +kernel
theorem d_L_law_473 : decode c_L_law 473 = .ok (.goto 747, 3) := by decide +kernel
theorem d_L_law_476 : decode c_L_law 476 = .ok (.aload_n 1, 1) := by decide +kernel
theorem d_L_law_477 : decode c_L_law 477 = .ok (.aload_n 0, 1) := by decide +kernel
theorem d_L_law_478 : decode c_L_law 478 = .ok (.iload 4, 2) := by decide +kernel
theorem d_L_law_480 : decode c_L_law 480 = .ok (.iconst 1, 1) := by decide +kernel
theorem d_L_law_481 : decode c_L_law 481 = .ok (.iadd, 1) := by decide +kernel
theorem d_L_law_482 : decode c_L_law 482 = .ok (.iaload, 1) := by decide +kernel
theorem d_L_law_483 : decode c_L_law 483 = .ok (.aload_n 0, 1) := by decide +kernel
theorem d_L_law_484 : decode c_L_law 484 = .ok (.iload 4, 2) := by decide +kernel
theorem d_L_law_486 : decode c_L_law 486 = .ok (.iconst 2, 1) := by decide +kernel
theorem d_L_law_487 : decode c_L_law 487 = .ok (.iadd, 1) := by decide +kernel
theorem d_L_law_488 : decode c_L_law 488 = .ok (.iaload, 1) := by decide +kernel
theorem d_L_law_489 : decode c_L_law 489 = .ok (.invokestatic 104, 3) := by decide +kernel
theorem d_L_law_492 : decode c_L_law 492 = .ok (.istore 5, 2) := by decide +kernel
theorem d_L_law_494 : decode c_L_law 494 = .ok (.aload_n 2, 1) := by decide +kernel
theorem d_L_law_495 : decode c_L_law 495 = .ok (.aload_n 0, 1) := by decide +kernel
theorem d_L_law_496 : decode c_L_law 496 = .ok (.iload 4, 2) := by decide +kernel
theorem d_L_law_498 : decode c_L_law 498 = .ok (.iconst 1, 1) := by decide +kernel
theorem d_L_law_499 : decode c_L_law 499 = .ok (.iadd, 1) := by decide +kernel
theorem d_L_law_500 : decode c_L_law 500 = .ok (.iaload, 1) := by decide +kernel
theorem d_L_law_501 : decode c_L_law 501 = .ok (.aload_n 0, 1) := by decide +kernel
theorem d_L_law_502 : decode c_L_law 502 = .ok (.iload 4, 2) := by decide +kernel
theorem d_L_law_504 : decode c_L_law 504 = .ok (.iconst 2, 1) := by decide +kernel
theorem d_L_law_505 : decode c_L_law 505 = .ok (.iadd, 1) := by decide +kernel
theorem d_L_law_506 : decode c_L_law 506 = .ok (.iaload, 1) := by decide +kernel
theorem d_L_law_507 : decode c_L_law 507 = .ok (.invokevirtual 106, 3) := by decide +kernel
theorem d_L_law_510 : decode c_L_law 510 = .ok (.aload_n 2, 1) := by decide +kernel
theorem d_L_law_511 : decode c_L_law 511 = .ok (.invokevirtual 85, 3) := by decide +kernel
theorem d_L_law_514 : decode c_L_law 514 = .ok (.iload 5, 2) := by decide +kernel
theorem d_L_law_516 : decode c_L_law 516 = .ok (.if_icmp .eq 5, 3) := by decide +kernel
theorem d_L_law_519 : decode c_L_law 519 = .ok (.iconst 0, 1) := by decide +kernel
theorem d_L_law_520 : decode c_L_law 520 = .ok (.ireturn, 1) := by decide +kernel
theorem d_L_law_521 : decode c_L_law 521 = .ok (.goto 699, 3) := by decide +kernel
theorem d_L_law_524 : decode c_L_law 524 = .ok (.aload_n 1, 1) := by decide +kernel
theorem d_L_law_525 : decode c_L_law 525 = .ok (.aload_n 0, 1) := by decide +kernel
theorem d_L_law_526 : decode c_L_law 526 = .ok (.iload 4, 2) := by decide +kernel
theorem d_L_law_528 : decode c_L_law 528 = .ok (.iconst 1, 1) := by decide +kernel
theorem d_L_law_529 : decode c_L_law 529 = .ok (.iadd, 1) := by decide +kernel
theorem d_L_law_530 : decode c_L_law 530 = .ok (.iaload, 1) := by decide +kernel
theorem d_L_law_531 : decode c_L_law 531 = .ok (.invokestatic 107, 3) := by decide +kernel
theorem d_L_law_534 : decode c_L_law 534 = .ok (.istore 5, 2) := by decide +kernel
theorem d_L_law_536 : decode c_L_law 536 = .ok (.aload_n 2, 1) := by decide +kernel
theorem d_L_law_537 : decode c_L_law 537 = .ok (.aload_n 0, 1) := by decide +kernel
theorem d_L_law_538 : decode c_L_law 538 = .ok (.iload 4, 2) := by decide +kernel
theorem d_L_law_540 : decode c_L_law 540 = .ok (.iconst 1, 1) := by decide +kernel
theorem d_L_law_541 : decode c_L_law 541 = .ok (.iadd, 1) := by decide +kernel
theorem d_L_law_542 : decode c_L_law 542 = .ok (.iaload, 1) := by decide +kernel
theorem d_L_law_543 : decode c_L_law 543 = .ok (.invokevirtual 110, 3) := by decide +kernel
theorem d_L_law_546 : decode c_L_law 546 = .ok (.aload_n 2, 1) := by decide +kernel
theorem d_L_law_547 : decode c_L_law 547 = .ok (.invokevirtual 85, 3) := by decide +kernel
theorem d_L_law_550 : decode c_L_law 550 = .ok (.iload 5, 2) := by decide +kernel
theorem d_L_law_552 : decode c_L_law 552 = .ok (.if_icmp .eq 5, 3) := by decide +kernel
theorem d_L_law_555 : decode c_L_law 555 = .ok (.iconst 0, 1) := by decide +kernel
theorem d_L_law_556 : decode c_L_law 556 = .ok (.ireturn, 1) := by decide +kernel
theorem d_L_law_557 : decode c_L_law 557 = .ok (.goto 663, 3) := by decide +kernel
theorem d_L_law_560 : decode c_L_law 560 = .ok (.aload_n 1, 1) := by decide +kernel
theorem d_L_law_561 : decode c_L_law 561 = .ok (.aload_n 0, 1) := by decide +kernel
theorem d_L_law_562 : decode c_L_law 562 = .ok (.iload 4, 2) := by decide +kernel
theorem d_L_law_564 : decode c_L_law 564 = .ok (.iconst 1, 1) := by decide +kernel
theorem d_L_law_565 : decode c_L_law 565 = .ok (.iadd, 1) := by decide +kernel
theorem d_L_law_566 : decode c_L_law 566 = .ok (.iaload, 1) := by decide +kernel
theorem d_L_law_567 : decode c_L_law 567 = .ok (.aload_n 0, 1) := by decide +kernel
theorem d_L_law_568 : decode c_L_law 568 = .ok (.iload 4, 2) := by decide +kernel
theorem d_L_law_570 : decode c_L_law 570 = .ok (.iconst 2, 1) := by decide +kernel
theorem d_L_law_571 : decode c_L_law 571 = .ok (.iadd, 1) := by decide +kernel
theorem d_L_law_572 : decode c_L_law 572 = .ok (.iaload, 1) := by decide +kernel
theorem d_L_law_573 : decode c_L_law 573 = .ok (.aload_n 3, 1) := by decide +kernel
theorem d_L_law_574 : decode c_L_law 574 = .ok (.invokestatic 111, 3) := by decide +kernel
theorem d_L_law_577 : decode c_L_law 577 = .ok (.istore 5, 2) := by decide +kernel
theorem d_L_law_579 : decode c_L_law 579 = .ok (.aload_n 2, 1) := by decide +kernel
theorem d_L_law_580 : decode c_L_law 580 = .ok (.aload_n 0, 1) := by decide +kernel
theorem d_L_law_581 : decode c_L_law 581 = .ok (.iload 4, 2) := by decide +kernel
theorem d_L_law_583 : decode c_L_law 583 = .ok (.iconst 1, 1) := by decide +kernel
theorem d_L_law_584 : decode c_L_law 584 = .ok (.iadd, 1) := by decide +kernel
theorem d_L_law_585 : decode c_L_law 585 = .ok (.iaload, 1) := by decide +kernel
theorem d_L_law_586 : decode c_L_law 586 = .ok (.aload_n 0, 1) := by decide +kernel
theorem d_L_law_587 : decode c_L_law 587 = .ok (.iload 4, 2) := by decide +kernel
theorem d_L_law_589 : decode c_L_law 589 = .ok (.iconst 2, 1) := by decide +kernel
theorem d_L_law_590 : decode c_L_law 590 = .ok (.iadd, 1) := by decide +kernel
theorem d_L_law_591 : decode c_L_law 591 = .ok (.iaload, 1) := by decide +kernel
theorem d_L_law_592 : decode c_L_law 592 = .ok (.invokevirtual 114, 3) := by decide +kernel
theorem d_L_law_595 : decode c_L_law 595 = .ok (.istore 6, 2) := by decide +kernel
theorem d_L_law_597 : decode c_L_law 597 = .ok (.aload_n 2, 1) := by decide +kernel
theorem d_L_law_598 : decode c_L_law 598 = .ok (.invokevirtual 85, 3) := by decide +kernel
theorem d_L_law_601 : decode c_L_law 601 = .ok (.iload 5, 2) := by decide +kernel
theorem d_L_law_603 : decode c_L_law 603 = .ok (.if_icmp .eq 5, 3) := by decide +kernel
theorem d_L_law_606 : decode c_L_law 606 = .ok (.iconst 0, 1) := by decide +kernel
theorem d_L_law_607 : decode c_L_law 607 = .ok (.ireturn, 1) := by decide +kernel
theorem d_L_law_608 : decode c_L_law 608 = .ok (.iload 5, 2) := by decide +kernel
theorem d_L_law_610 : decode c_L_law 610 = .ok (.ifCond .ne 15, 3) := by decide +kernel
theorem d_L_law_613 : decode c_L_law 613 = .ok (.aload_n 3, 1) := by decide +kernel
theorem d_L_law_614 : decode c_L_law 614 = .ok (.iconst 0, 1) := by decide +kernel
theorem d_L_law_615 : decode c_L_law 615 = .ok (.laload, 1) := by decide +kernel
theorem d_L_law_616 : decode c_L_law 616 = .ok (.iload 6, 2) := by decide +kernel
theorem d_L_law_618 : decode c_L_law 618 = .ok (.i2l, 1) := by decide +kernel
theorem d_L_law_619 : decode c_L_law 619 = .ok (.lcmp, 1) := by decide +kernel
theorem d_L_law_620 : decode c_L_law 620 = .ok (.ifCond .eq 5, 3) := by decide +kernel
theorem d_L_law_623 : decode c_L_law 623 = .ok (.iconst 0, 1) := by decide +kernel
theorem d_L_law_624 : decode c_L_law 624 = .ok (.ireturn, 1) := by decide +kernel
theorem d_L_law_625 : decode c_L_law 625 = .ok (.goto 595, 3) := by decide +kernel
theorem d_L_law_628 : decode c_L_law 628 = .ok (.aload_n 1, 1) := by decide +kernel
theorem d_L_law_629 : decode c_L_law 629 = .ok (.aload_n 0, 1) := by decide +kernel
theorem d_L_law_630 : decode c_L_law 630 = .ok (.iload 4, 2) := by decide +kernel
theorem d_L_law_632 : decode c_L_law 632 = .ok (.iconst 1, 1) := by decide +kernel
theorem d_L_law_633 : decode c_L_law 633 = .ok (.iadd, 1) := by decide +kernel
theorem d_L_law_634 : decode c_L_law 634 = .ok (.iaload, 1) := by decide +kernel
theorem d_L_law_635 : decode c_L_law 635 = .ok (.aload_n 3, 1) := by decide +kernel
theorem d_L_law_636 : decode c_L_law 636 = .ok (.invokestatic 115, 3) := by decide +kernel
theorem d_L_law_639 : decode c_L_law 639 = .ok (.istore 5, 2) := by decide +kernel
theorem d_L_law_641 : decode c_L_law 641 = .ok (.aload_n 2, 1) := by decide +kernel
theorem d_L_law_642 : decode c_L_law 642 = .ok (.aload_n 0, 1) := by decide +kernel
theorem d_L_law_643 : decode c_L_law 643 = .ok (.iload 4, 2) := by decide +kernel
theorem d_L_law_645 : decode c_L_law 645 = .ok (.iconst 1, 1) := by decide +kernel
theorem d_L_law_646 : decode c_L_law 646 = .ok (.iadd, 1) := by decide +kernel
theorem d_L_law_647 : decode c_L_law 647 = .ok (.iaload, 1) := by decide +kernel
theorem d_L_law_648 : decode c_L_law 648 = .ok (.invokevirtual 118, 3) := by decide +kernel
theorem d_L_law_651 : decode c_L_law 651 = .ok (.istore 6, 2) := by decide +kernel
theorem d_L_law_653 : decode c_L_law 653 = .ok (.aload_n 2, 1) := by decide +kernel
theorem d_L_law_654 : decode c_L_law 654 = .ok (.invokevirtual 85, 3) := by decide +kernel
theorem d_L_law_657 : decode c_L_law 657 = .ok (.iload 5, 2) := by decide +kernel
theorem d_L_law_659 : decode c_L_law 659 = .ok (.if_icmp .eq 5, 3) := by decide +kernel
theorem d_L_law_662 : decode c_L_law 662 = .ok (.iconst 0, 1) := by decide +kernel
theorem d_L_law_663 : decode c_L_law 663 = .ok (.ireturn, 1) := by decide +kernel
theorem d_L_law_664 : decode c_L_law 664 = .ok (.iload 5, 2) := by decide +kernel
theorem d_L_law_666 : decode c_L_law 666 = .ok (.ifCond .ne 15, 3) := by decide +kernel
theorem d_L_law_669 : decode c_L_law 669 = .ok (.aload_n 3, 1) := by decide +kernel
theorem d_L_law_670 : decode c_L_law 670 = .ok (.iconst 0, 1) := by decide +kernel
theorem d_L_law_671 : decode c_L_law 671 = .ok (.laload, 1) := by decide +kernel
theorem d_L_law_672 : decode c_L_law 672 = .ok (.iload 6, 2) := by decide +kernel
theorem d_L_law_674 : decode c_L_law 674 = .ok (.i2l, 1) := by decide +kernel
theorem d_L_law_675 : decode c_L_law 675 = .ok (.lcmp, 1) := by decide +kernel
theorem d_L_law_676 : decode c_L_law 676 = .ok (.ifCond .eq 5, 3) := by decide +kernel
theorem d_L_law_679 : decode c_L_law 679 = .ok (.iconst 0, 1) := by decide +kernel
theorem d_L_law_680 : decode c_L_law 680 = .ok (.ireturn, 1) := by decide +kernel
theorem d_L_law_681 : decode c_L_law 681 = .ok (.goto 539, 3) := by decide +kernel
theorem d_L_law_684 : decode c_L_law 684 = .ok (.aload_n 1, 1) := by decide +kernel
theorem d_L_law_685 : decode c_L_law 685 = .ok (.aload_n 0, 1) := by decide +kernel
theorem d_L_law_686 : decode c_L_law 686 = .ok (.iload 4, 2) := by decide +kernel
theorem d_L_law_688 : decode c_L_law 688 = .ok (.iconst 1, 1) := by decide +kernel
theorem d_L_law_689 : decode c_L_law 689 = .ok (.iadd, 1) := by decide +kernel
theorem d_L_law_690 : decode c_L_law 690 = .ok (.iaload, 1) := by decide +kernel
theorem d_L_law_691 : decode c_L_law 691 = .ok (.aload_n 0, 1) := by decide +kernel
theorem d_L_law_692 : decode c_L_law 692 = .ok (.iload 4, 2) := by decide +kernel
theorem d_L_law_694 : decode c_L_law 694 = .ok (.iconst 2, 1) := by decide +kernel
theorem d_L_law_695 : decode c_L_law 695 = .ok (.iadd, 1) := by decide +kernel
theorem d_L_law_696 : decode c_L_law 696 = .ok (.iaload, 1) := by decide +kernel
theorem d_L_law_697 : decode c_L_law 697 = .ok (.aload_n 3, 1) := by decide +kernel
theorem d_L_law_698 : decode c_L_law 698 = .ok (.invokestatic 119, 3) := by decide +kernel
theorem d_L_law_701 : decode c_L_law 701 = .ok (.istore 5, 2) := by decide +kernel
theorem d_L_law_703 : decode c_L_law 703 = .ok (.aload_n 2, 1) := by decide +kernel
theorem d_L_law_704 : decode c_L_law 704 = .ok (.aload_n 0, 1) := by decide +kernel
theorem d_L_law_705 : decode c_L_law 705 = .ok (.iload 4, 2) := by decide +kernel
theorem d_L_law_707 : decode c_L_law 707 = .ok (.iconst 1, 1) := by decide +kernel
theorem d_L_law_708 : decode c_L_law 708 = .ok (.iadd, 1) := by decide +kernel
theorem d_L_law_709 : decode c_L_law 709 = .ok (.iaload, 1) := by decide +kernel
theorem d_L_law_710 : decode c_L_law 710 = .ok (.aload_n 0, 1) := by decide +kernel
theorem d_L_law_711 : decode c_L_law 711 = .ok (.iload 4, 2) := by decide +kernel
theorem d_L_law_713 : decode c_L_law 713 = .ok (.iconst 2, 1) := by decide +kernel
theorem d_L_law_714 : decode c_L_law 714 = .ok (.iadd, 1) := by decide +kernel
theorem d_L_law_715 : decode c_L_law 715 = .ok (.iaload, 1) := by decide +kernel
theorem d_L_law_716 : decode c_L_law 716 = .ok (.invokevirtual 121, 3) := by decide +kernel
theorem d_L_law_719 : decode c_L_law 719 = .ok (.istore 6, 2) := by decide +kernel
theorem d_L_law_721 : decode c_L_law 721 = .ok (.aload_n 2, 1) := by decide +kernel
theorem d_L_law_722 : decode c_L_law 722 = .ok (.invokevirtual 85, 3) := by decide +kernel
theorem d_L_law_725 : decode c_L_law 725 = .ok (.iload 5, 2) := by decide +kernel
theorem d_L_law_727 : decode c_L_law 727 = .ok (.if_icmp .eq 5, 3) := by decide +kernel
theorem d_L_law_730 : decode c_L_law 730 = .ok (.iconst 0, 1) := by decide +kernel
theorem d_L_law_731 : decode c_L_law 731 = .ok (.ireturn, 1) := by decide +kernel
theorem d_L_law_732 : decode c_L_law 732 = .ok (.iload 5, 2) := by decide +kernel
theorem d_L_law_734 : decode c_L_law 734 = .ok (.ifCond .ne 15, 3) := by decide +kernel
theorem d_L_law_737 : decode c_L_law 737 = .ok (.aload_n 3, 1) := by decide +kernel
theorem d_L_law_738 : decode c_L_law 738 = .ok (.iconst 0, 1) := by decide +kernel
theorem d_L_law_739 : decode c_L_law 739 = .ok (.laload, 1) := by decide +kernel
theorem d_L_law_740 : decode c_L_law 740 = .ok (.iload 6, 2) := by decide +kernel
theorem d_L_law_742 : decode c_L_law 742 = .ok (.i2l, 1) := by decide +kernel
theorem d_L_law_743 : decode c_L_law 743 = .ok (.lcmp, 1) := by decide +kernel
theorem d_L_law_744 : decode c_L_law 744 = .ok (.ifCond .eq 5, 3) := by decide +kernel
theorem d_L_law_747 : decode c_L_law 747 = .ok (.iconst 0, 1) := by decide +kernel
theorem d_L_law_748 : decode c_L_law 748 = .ok (.ireturn, 1) := by decide +kernel
theorem d_L_law_749 : decode c_L_law 749 = .ok (.goto 471, 3) := by decide +kernel
theorem d_L_law_752 : decode c_L_law 752 = .ok (.aload_n 1, 1) := by decide +kernel
theorem d_L_law_753 : decode c_L_law 753 = .ok (.aload_n 0, 1) := by decide +kernel
theorem d_L_law_754 : decode c_L_law 754 = .ok (.iload 4, 2) := by decide +kernel
theorem d_L_law_756 : decode c_L_law 756 = .ok (.iconst 1, 1) := by decide +kernel
theorem d_L_law_757 : decode c_L_law 757 = .ok (.iadd, 1) := by decide +kernel
theorem d_L_law_758 : decode c_L_law 758 = .ok (.iaload, 1) := by decide +kernel
theorem d_L_law_759 : decode c_L_law 759 = .ok (.aload_n 3, 1) := by decide +kernel
theorem d_L_law_760 : decode c_L_law 760 = .ok (.invokestatic 122, 3) := by decide +kernel
theorem d_L_law_763 : decode c_L_law 763 = .ok (.istore 5, 2) := by decide +kernel
theorem d_L_law_765 : decode c_L_law 765 = .ok (.aload_n 2, 1) := by decide +kernel
theorem d_L_law_766 : decode c_L_law 766 = .ok (.aload_n 0, 1) := by decide +kernel
theorem d_L_law_767 : decode c_L_law 767 = .ok (.iload 4, 2) := by decide +kernel
theorem d_L_law_769 : decode c_L_law 769 = .ok (.iconst 1, 1) := by decide +kernel
theorem d_L_law_770 : decode c_L_law 770 = .ok (.iadd, 1) := by decide +kernel
theorem d_L_law_771 : decode c_L_law 771 = .ok (.iaload, 1) := by decide +kernel
theorem d_L_law_772 : decode c_L_law 772 = .ok (.invokevirtual 124, 3) := by decide +kernel
theorem d_L_law_775 : decode c_L_law 775 = .ok (.lstore 6, 2) := by decide +kernel
theorem d_L_law_777 : decode c_L_law 777 = .ok (.aload_n 2, 1) := by decide +kernel
theorem d_L_law_778 : decode c_L_law 778 = .ok (.invokevirtual 85, 3) := by decide +kernel
theorem d_L_law_781 : decode c_L_law 781 = .ok (.iload 5, 2) := by decide +kernel
theorem d_L_law_783 : decode c_L_law 783 = .ok (.if_icmp .eq 5, 3) := by decide +kernel
theorem d_L_law_786 : decode c_L_law 786 = .ok (.iconst 0, 1) := by decide +kernel
theorem d_L_law_787 : decode c_L_law 787 = .ok (.ireturn, 1) := by decide +kernel
theorem d_L_law_788 : decode c_L_law 788 = .ok (.iload 5, 2) := by decide +kernel
theorem d_L_law_790 : decode c_L_law 790 = .ok (.ifCond .ne 14, 3) := by decide +kernel
theorem d_L_law_793 : decode c_L_law 793 = .ok (.aload_n 3, 1) := by decide +kernel
theorem d_L_law_794 : decode c_L_law 794 = .ok (.iconst 0, 1) := by decide +kernel
theorem d_L_law_795 : decode c_L_law 795 = .ok (.laload, 1) := by decide +kernel
theorem d_L_law_796 : decode c_L_law 796 = .ok (.lload 6, 2) := by decide +kernel
theorem d_L_law_798 : decode c_L_law 798 = .ok (.lcmp, 1) := by decide +kernel
theorem d_L_law_799 : decode c_L_law 799 = .ok (.ifCond .eq 5, 3) := by decide +kernel
theorem d_L_law_802 : decode c_L_law 802 = .ok (.iconst 0, 1) := by decide +kernel
theorem d_L_law_803 : decode c_L_law 803 = .ok (.ireturn, 1) := by decide +kernel
theorem d_L_law_804 : decode c_L_law 804 = .ok (.goto 416, 3) := by decide +kernel
theorem d_L_law_807 : decode c_L_law 807 = .ok (.aload_n 1, 1) := by decide +kernel
theorem d_L_law_808 : decode c_L_law 808 = .ok (.aload_n 0, 1) := by decide +kernel
theorem d_L_law_809 : decode c_L_law 809 = .ok (.iload 4, 2) := by decide +kernel
theorem d_L_law_811 : decode c_L_law 811 = .ok (.iconst 1, 1) := by decide +kernel
theorem d_L_law_812 : decode c_L_law 812 = .ok (.iadd, 1) := by decide +kernel
theorem d_L_law_813 : decode c_L_law 813 = .ok (.iaload, 1) := by decide +kernel
theorem d_L_law_814 : decode c_L_law 814 = .ok (.aload_n 0, 1) := by decide +kernel
theorem d_L_law_815 : decode c_L_law 815 = .ok (.iload 4, 2) := by decide +kernel
theorem d_L_law_817 : decode c_L_law 817 = .ok (.iconst 2, 1) := by decide +kernel
theorem d_L_law_818 : decode c_L_law 818 = .ok (.iadd, 1) := by decide +kernel
theorem d_L_law_819 : decode c_L_law 819 = .ok (.iaload, 1) := by decide +kernel
theorem d_L_law_820 : decode c_L_law 820 = .ok (.aload_n 3, 1) := by decide +kernel
theorem d_L_law_821 : decode c_L_law 821 = .ok (.invokestatic 125, 3) := by decide +kernel
theorem d_L_law_824 : decode c_L_law 824 = .ok (.istore 5, 2) := by decide +kernel
theorem d_L_law_826 : decode c_L_law 826 = .ok (.aload_n 2, 1) := by decide +kernel
theorem d_L_law_827 : decode c_L_law 827 = .ok (.aload_n 0, 1) := by decide +kernel
theorem d_L_law_828 : decode c_L_law 828 = .ok (.iload 4, 2) := by decide +kernel
theorem d_L_law_830 : decode c_L_law 830 = .ok (.iconst 1, 1) := by decide +kernel
theorem d_L_law_831 : decode c_L_law 831 = .ok (.iadd, 1) := by decide +kernel
theorem d_L_law_832 : decode c_L_law 832 = .ok (.iaload, 1) := by decide +kernel
theorem d_L_law_833 : decode c_L_law 833 = .ok (.aload_n 0, 1) := by decide +kernel
theorem d_L_law_834 : decode c_L_law 834 = .ok (.iload 4, 2) := by decide +kernel
theorem d_L_law_836 : decode c_L_law 836 = .ok (.iconst 2, 1) := by decide +kernel
theorem d_L_law_837 : decode c_L_law 837 = .ok (.iadd, 1) := by decide +kernel
theorem d_L_law_838 : decode c_L_law 838 = .ok (.iaload, 1) := by decide +kernel
theorem d_L_law_839 : decode c_L_law 839 = .ok (.invokevirtual 127, 3) := by decide +kernel
theorem d_L_law_842 : decode c_L_law 842 = .ok (.istore 6, 2) := by decide +kernel
theorem d_L_law_844 : decode c_L_law 844 = .ok (.aload_n 2, 1) := by decide +kernel
theorem d_L_law_845 : decode c_L_law 845 = .ok (.invokevirtual 85, 3) := by decide +kernel
theorem d_L_law_848 : decode c_L_law 848 = .ok (.iload 5, 2) := by decide +kernel
theorem d_L_law_850 : decode c_L_law 850 = .ok (.if_icmp .eq 5, 3) := by decide +kernel
theorem d_L_law_853 : decode c_L_law 853 = .ok (.iconst 0, 1) := by decide +kernel
theorem d_L_law_854 : decode c_L_law 854 = .ok (.ireturn, 1) := by decide +kernel
theorem d_L_law_855 : decode c_L_law 855 = .ok (.iload 5, 2) := by decide +kernel
theorem d_L_law_857 : decode c_L_law 857 = .ok (.ifCond .ne 15, 3) := by decide +kernel
theorem d_L_law_860 : decode c_L_law 860 = .ok (.aload_n 3, 1) := by decide +kernel
theorem d_L_law_861 : decode c_L_law 861 = .ok (.iconst 0, 1) := by decide +kernel
theorem d_L_law_862 : decode c_L_law 862 = .ok (.laload, 1) := by decide +kernel
theorem d_L_law_863 : decode c_L_law 863 = .ok (.iload 6, 2) := by decide +kernel
theorem d_L_law_865 : decode c_L_law 865 = .ok (.i2l, 1) := by decide +kernel
theorem d_L_law_866 : decode c_L_law 866 = .ok (.lcmp, 1) := by decide +kernel
theorem d_L_law_867 : decode c_L_law 867 = .ok (.ifCond .eq 5, 3) := by decide +kernel
theorem d_L_law_870 : decode c_L_law 870 = .ok (.iconst 0, 1) := by decide +kernel
theorem d_L_law_871 : decode c_L_law 871 = .ok (.ireturn, 1) := by decide +kernel
theorem d_L_law_872 : decode c_L_law 872 = .ok (.goto 348, 3) := by decide +kernel
theorem d_L_law_875 : decode c_L_law 875 = .ok (.aload_n 1, 1) := by decide +kernel
theorem d_L_law_876 : decode c_L_law 876 = .ok (.aload_n 0, 1) := by decide +kernel
theorem d_L_law_877 : decode c_L_law 877 = .ok (.iload 4, 2) := by decide +kernel
theorem d_L_law_879 : decode c_L_law 879 = .ok (.iconst 1, 1) := by decide +kernel
theorem d_L_law_880 : decode c_L_law 880 = .ok (.iadd, 1) := by decide +kernel
theorem d_L_law_881 : decode c_L_law 881 = .ok (.iaload, 1) := by decide +kernel
theorem d_L_law_882 : decode c_L_law 882 = .ok (.aload_n 0, 1) := by decide +kernel
theorem d_L_law_883 : decode c_L_law 883 = .ok (.iload 4, 2) := by decide +kernel
theorem d_L_law_885 : decode c_L_law 885 = .ok (.iconst 2, 1) := by decide +kernel
theorem d_L_law_886 : decode c_L_law 886 = .ok (.iadd, 1) := by decide +kernel
theorem d_L_law_887 : decode c_L_law 887 = .ok (.iaload, 1) := by decide +kernel
theorem d_L_law_888 : decode c_L_law 888 = .ok (.aload_n 3, 1) := by decide +kernel
theorem d_L_law_889 : decode c_L_law 889 = .ok (.invokestatic 128, 3) := by decide +kernel
theorem d_L_law_892 : decode c_L_law 892 = .ok (.istore 5, 2) := by decide +kernel
theorem d_L_law_894 : decode c_L_law 894 = .ok (.aload_n 2, 1) := by decide +kernel
theorem d_L_law_895 : decode c_L_law 895 = .ok (.aload_n 0, 1) := by decide +kernel
theorem d_L_law_896 : decode c_L_law 896 = .ok (.iload 4, 2) := by decide +kernel
theorem d_L_law_898 : decode c_L_law 898 = .ok (.iconst 1, 1) := by decide +kernel
theorem d_L_law_899 : decode c_L_law 899 = .ok (.iadd, 1) := by decide +kernel
theorem d_L_law_900 : decode c_L_law 900 = .ok (.iaload, 1) := by decide +kernel
theorem d_L_law_901 : decode c_L_law 901 = .ok (.aload_n 0, 1) := by decide +kernel
theorem d_L_law_902 : decode c_L_law 902 = .ok (.iload 4, 2) := by decide +kernel
theorem d_L_law_904 : decode c_L_law 904 = .ok (.iconst 2, 1) := by decide +kernel
theorem d_L_law_905 : decode c_L_law 905 = .ok (.iadd, 1) := by decide +kernel
theorem d_L_law_906 : decode c_L_law 906 = .ok (.iaload, 1) := by decide +kernel
theorem d_L_law_907 : decode c_L_law 907 = .ok (.invokevirtual 130, 3) := by decide +kernel
theorem d_L_law_910 : decode c_L_law 910 = .ok (.lstore 6, 2) := by decide +kernel
theorem d_L_law_912 : decode c_L_law 912 = .ok (.aload_n 2, 1) := by decide +kernel
theorem d_L_law_913 : decode c_L_law 913 = .ok (.invokevirtual 85, 3) := by decide +kernel
theorem d_L_law_916 : decode c_L_law 916 = .ok (.iload 5, 2) := by decide +kernel
theorem d_L_law_918 : decode c_L_law 918 = .ok (.if_icmp .eq 5, 3) := by decide +kernel
theorem d_L_law_921 : decode c_L_law 921 = .ok (.iconst 0, 1) := by decide +kernel
theorem d_L_law_922 : decode c_L_law 922 = .ok (.ireturn, 1) := by decide +kernel
theorem d_L_law_923 : decode c_L_law 923 = .ok (.iload 5, 2) := by decide +kernel
theorem d_L_law_925 : decode c_L_law 925 = .ok (.ifCond .ne 14, 3) := by decide +kernel
theorem d_L_law_928 : decode c_L_law 928 = .ok (.aload_n 3, 1) := by decide +kernel
theorem d_L_law_929 : decode c_L_law 929 = .ok (.iconst 0, 1) := by decide +kernel
theorem d_L_law_930 : decode c_L_law 930 = .ok (.laload, 1) := by decide +kernel
theorem d_L_law_931 : decode c_L_law 931 = .ok (.lload 6, 2) := by decide +kernel
theorem d_L_law_933 : decode c_L_law 933 = .ok (.lcmp, 1) := by decide +kernel
theorem d_L_law_934 : decode c_L_law 934 = .ok (.ifCond .eq 5, 3) := by decide +kernel
theorem d_L_law_937 : decode c_L_law 937 = .ok (.iconst 0, 1) := by decide +kernel
theorem d_L_law_938 : decode c_L_law 938 = .ok (.ireturn, 1) := by decide +kernel
theorem d_L_law_939 : decode c_L_law 939 = .ok (.goto 281, 3) := by decide +kernel
theorem d_L_law_942 : decode c_L_law 942 = .ok (.aload_n 1, 1) := by decide +kernel
theorem d_L_law_943 : decode c_L_law 943 = .ok (.aload_n 0, 1) := by decide +kernel
theorem d_L_law_944 : decode c_L_law 944 = .ok (.iload 4, 2) := by decide +kernel
theorem d_L_law_946 : decode c_L_law 946 = .ok (.iconst 1, 1) := by decide +kernel
theorem d_L_law_947 : decode c_L_law 947 = .ok (.iadd, 1) := by decide +kernel
theorem d_L_law_948 : decode c_L_law 948 = .ok (.iaload, 1) := by decide +kernel
theorem d_L_law_949 : decode c_L_law 949 = .ok (.aload_n 0, 1) := by decide +kernel
theorem d_L_law_950 : decode c_L_law 950 = .ok (.iload 4, 2) := by decide +kernel
theorem d_L_law_952 : decode c_L_law 952 = .ok (.iconst 2, 1) := by decide +kernel
theorem d_L_law_953 : decode c_L_law 953 = .ok (.iadd, 1) := by decide +kernel
theorem d_L_law_954 : decode c_L_law 954 = .ok (.iaload, 1) := by decide +kernel
theorem d_L_law_955 : decode c_L_law 955 = .ok (.aload_n 0, 1) := by decide +kernel
theorem d_L_law_956 : decode c_L_law 956 = .ok (.iload 4, 2) := by decide +kernel
theorem d_L_law_958 : decode c_L_law 958 = .ok (.iconst 3, 1) := by decide +kernel
theorem d_L_law_959 : decode c_L_law 959 = .ok (.iadd, 1) := by decide +kernel
theorem d_L_law_960 : decode c_L_law 960 = .ok (.iaload, 1) := by decide +kernel
theorem d_L_law_961 : decode c_L_law 961 = .ok (.aload_n 3, 1) := by decide +kernel
theorem d_L_law_962 : decode c_L_law 962 = .ok (.invokestatic 131, 3) := by decide +kernel
theorem d_L_law_965 : decode c_L_law 965 = .ok (.istore 5, 2) := by decide +kernel
theorem d_L_law_967 : decode c_L_law 967 = .ok (.aload_n 2, 1) := by decide +kernel
theorem d_L_law_968 : decode c_L_law 968 = .ok (.aload_n 0, 1) := by decide +kernel
theorem d_L_law_969 : decode c_L_law 969 = .ok (.iload 4, 2) := by decide +kernel
theorem d_L_law_971 : decode c_L_law 971 = .ok (.iconst 1, 1) := by decide +kernel
theorem d_L_law_972 : decode c_L_law 972 = .ok (.iadd, 1) := by decide +kernel
theorem d_L_law_973 : decode c_L_law 973 = .ok (.iaload, 1) := by decide +kernel
theorem d_L_law_974 : decode c_L_law 974 = .ok (.aload_n 0, 1) := by decide +kernel
theorem d_L_law_975 : decode c_L_law 975 = .ok (.iload 4, 2) := by decide +kernel
theorem d_L_law_977 : decode c_L_law 977 = .ok (.iconst 2, 1) := by decide +kernel
theorem d_L_law_978 : decode c_L_law 978 = .ok (.iadd, 1) := by decide +kernel
theorem d_L_law_979 : decode c_L_law 979 = .ok (.iaload, 1) := by decide +kernel
theorem d_L_law_980 : decode c_L_law 980 = .ok (.aload_n 0, 1) := by decide +kernel
theorem d_L_law_981 : decode c_L_law 981 = .ok (.iload 4, 2) := by decide +kernel
theorem d_L_law_983 : decode c_L_law 983 = .ok (.iconst 3, 1) := by decide +kernel
theorem d_L_law_984 : decode c_L_law 984 = .ok (.iadd, 1) := by decide +kernel
theorem d_L_law_985 : decode c_L_law 985 = .ok (.iaload, 1) := by decide +kernel
theorem d_L_law_986 : decode c_L_law 986 = .ok (.invokevirtual 133, 3) := by decide +kernel
theorem d_L_law_989 : decode c_L_law 989 = .ok (.lstore 6, 2) := by decide +kernel
theorem d_L_law_991 : decode c_L_law 991 = .ok (.aload_n 2, 1) := by decide +kernel
theorem d_L_law_992 : decode c_L_law 992 = .ok (.invokevirtual 85, 3) := by decide +kernel
theorem d_L_law_995 : decode c_L_law 995 = .ok (.iload 5, 2) := by decide +kernel
theorem d_L_law_997 : decode c_L_law 997 = .ok (.if_icmp .eq 5, 3) := by decide +kernel
theorem d_L_law_1000 : decode c_L_law 1000 = .ok (.iconst 0, 1) := by decide +kernel
theorem d_L_law_1001 : decode c_L_law 1001 = .ok (.ireturn, 1) := by decide +kernel
theorem d_L_law_1002 : decode c_L_law 1002 = .ok (.iload 5, 2) := by decide +kernel
theorem d_L_law_1004 : decode c_L_law 1004 = .ok (.ifCond .ne 14, 3) := by decide +kernel
theorem d_L_law_1007 : decode c_L_law 1007 = .ok (.aload_n 3, 1) := by decide +kernel
theorem d_L_law_1008 : decode c_L_law 1008 = .ok (.iconst 0, 1) := by decide +kernel
theorem d_L_law_1009 : decode c_L_law 1009 = .ok (.laload, 1) := by decide +kernel
theorem d_L_law_1010 : decode c_L_law 1010 = .ok (.lload 6, 2) := by decide +kernel
theorem d_L_law_1012 : decode c_L_law 1012 = .ok (.lcmp, 1) := by decide +kernel
theorem d_L_law_1013 : decode c_L_law 1013 = .ok (.ifCond .eq 5, 3) := by decide +kernel
theorem d_L_law_1016 : decode c_L_law 1016 = .ok (.iconst 0, 1) := by decide +kernel
theorem d_L_law_1017 : decode c_L_law 1017 = .ok (.ireturn, 1) := by decide +kernel
theorem d_L_law_1018 : decode c_L_law 1018 = .ok (.goto 202, 3) := by decide +kernel
theorem d_L_law_1021 : decode c_L_law 1021 = .ok (.aload_n 1, 1) := by decide +kernel
theorem d_L_law_1022 : decode c_L_law 1022 = .ok (.aload_n 0, 1) := by decide +kernel
theorem d_L_law_1023 : decode c_L_law 1023 = .ok (.iload 4, 2) := by decide +kernel
theorem d_L_law_1025 : decode c_L_law 1025 = .ok (.iconst 1, 1) := by decide +kernel
theorem d_L_law_1026 : decode c_L_law 1026 = .ok (.iadd, 1) := by decide +kernel
theorem d_L_law_1027 : decode c_L_law 1027 = .ok (.iaload, 1) := by decide +kernel
theorem d_L_law_1028 : decode c_L_law 1028 = .ok (.aload_n 0, 1) := by decide +kernel
theorem d_L_law_1029 : decode c_L_law 1029 = .ok (.iload 4, 2) := by decide +kernel
theorem d_L_law_1031 : decode c_L_law 1031 = .ok (.iconst 2, 1) := by decide +kernel
theorem d_L_law_1032 : decode c_L_law 1032 = .ok (.iadd, 1) := by decide +kernel
theorem d_L_law_1033 : decode c_L_law 1033 = .ok (.iaload, 1) := by decide +kernel
theorem d_L_law_1034 : decode c_L_law 1034 = .ok (.aload_n 0, 1) := by decide +kernel
theorem d_L_law_1035 : decode c_L_law 1035 = .ok (.iload 4, 2) := by decide +kernel
theorem d_L_law_1037 : decode c_L_law 1037 = .ok (.iconst 3, 1) := by decide +kernel
theorem d_L_law_1038 : decode c_L_law 1038 = .ok (.iadd, 1) := by decide +kernel
theorem d_L_law_1039 : decode c_L_law 1039 = .ok (.iaload, 1) := by decide +kernel
theorem d_L_law_1040 : decode c_L_law 1040 = .ok (.aload_n 3, 1) := by decide +kernel
theorem d_L_law_1041 : decode c_L_law 1041 = .ok (.invokestatic 134, 3) := by decide +kernel
theorem d_L_law_1044 : decode c_L_law 1044 = .ok (.istore 5, 2) := by decide +kernel
theorem d_L_law_1046 : decode c_L_law 1046 = .ok (.aload_n 2, 1) := by decide +kernel
theorem d_L_law_1047 : decode c_L_law 1047 = .ok (.aload_n 0, 1) := by decide +kernel
theorem d_L_law_1048 : decode c_L_law 1048 = .ok (.iload 4, 2) := by decide +kernel
theorem d_L_law_1050 : decode c_L_law 1050 = .ok (.iconst 1, 1) := by decide +kernel
theorem d_L_law_1051 : decode c_L_law 1051 = .ok (.iadd, 1) := by decide +kernel
theorem d_L_law_1052 : decode c_L_law 1052 = .ok (.iaload, 1) := by decide +kernel
theorem d_L_law_1053 : decode c_L_law 1053 = .ok (.aload_n 0, 1) := by decide +kernel
theorem d_L_law_1054 : decode c_L_law 1054 = .ok (.iload 4, 2) := by decide +kernel
theorem d_L_law_1056 : decode c_L_law 1056 = .ok (.iconst 2, 1) := by decide +kernel
theorem d_L_law_1057 : decode c_L_law 1057 = .ok (.iadd, 1) := by decide +kernel
theorem d_L_law_1058 : decode c_L_law 1058 = .ok (.iaload, 1) := by decide +kernel
theorem d_L_law_1059 : decode c_L_law 1059 = .ok (.aload_n 0, 1) := by decide +kernel
theorem d_L_law_1060 : decode c_L_law 1060 = .ok (.iload 4, 2) := by decide +kernel
theorem d_L_law_1062 : decode c_L_law 1062 = .ok (.iconst 3, 1) := by decide +kernel
theorem d_L_law_1063 : decode c_L_law 1063 = .ok (.iadd, 1) := by decide +kernel
theorem d_L_law_1064 : decode c_L_law 1064 = .ok (.iaload, 1) := by decide +kernel
theorem d_L_law_1065 : decode c_L_law 1065 = .ok (.invokevirtual 136, 3) := by decide +kernel
theorem d_L_law_1068 : decode c_L_law 1068 = .ok (.istore 6, 2) := by decide +kernel
theorem d_L_law_1070 : decode c_L_law 1070 = .ok (.aload_n 2, 1) := by decide +kernel
theorem d_L_law_1071 : decode c_L_law 1071 = .ok (.invokevirtual 85, 3) := by decide +kernel
theorem d_L_law_1074 : decode c_L_law 1074 = .ok (.iload 5, 2) := by decide +kernel
theorem d_L_law_1076 : decode c_L_law 1076 = .ok (.if_icmp .eq 5, 3) := by decide +kernel
theorem d_L_law_1079 : decode c_L_law 1079 = .ok (.iconst 0, 1) := by decide +kernel
theorem d_L_law_1080 : decode c_L_law 1080 = .ok (.ireturn, 1) := by decide +kernel
theorem d_L_law_1081 : decode c_L_law 1081 = .ok (.iload 5, 2) := by decide +kernel
theorem d_L_law_1083 : decode c_L_law 1083 = .ok (.ifCond .ne 15, 3) := by decide +kernel
theorem d_L_law_1086 : decode c_L_law 1086 = .ok (.aload_n 3, 1) := by decide +kernel
theorem d_L_law_1087 : decode c_L_law 1087 = .ok (.iconst 0, 1) := by decide +kernel
theorem d_L_law_1088 : decode c_L_law 1088 = .ok (.laload, 1) := by decide +kernel
theorem d_L_law_1089 : decode c_L_law 1089 = .ok (.iload 6, 2) := by decide +kernel
theorem d_L_law_1091 : decode c_L_law 1091 = .ok (.i2l, 1) := by decide +kernel
theorem d_L_law_1092 : decode c_L_law 1092 = .ok (.lcmp, 1) := by decide +kernel
theorem d_L_law_1093 : decode c_L_law 1093 = .ok (.ifCond .eq 5, 3) := by decide +kernel
theorem d_L_law_1096 : decode c_L_law 1096 = .ok (.iconst 0, 1) := by decide +kernel
theorem d_L_law_1097 : decode c_L_law 1097 = .ok (.ireturn, 1) := by decide +kernel
theorem d_L_law_1098 : decode c_L_law 1098 = .ok (.goto 122, 3) := by decide +kernel
theorem d_L_law_1101 : decode c_L_law 1101 = .ok (.aload_n 1, 1) := by decide +kernel
theorem d_L_law_1102 : decode c_L_law 1102 = .ok (.aload_n 0, 1) := by decide +kernel
theorem d_L_law_1103 : decode c_L_law 1103 = .ok (.iload 4, 2) := by decide +kernel
theorem d_L_law_1105 : decode c_L_law 1105 = .ok (.iconst 1, 1) := by decide +kernel
theorem d_L_law_1106 : decode c_L_law 1106 = .ok (.iadd, 1) := by decide +kernel
theorem d_L_law_1107 : decode c_L_law 1107 = .ok (.iaload, 1) := by decide +kernel
theorem d_L_law_1108 : decode c_L_law 1108 = .ok (.aload_n 3, 1) := by decide +kernel
theorem d_L_law_1109 : decode c_L_law 1109 = .ok (.invokestatic 137, 3) := by decide +kernel
theorem d_L_law_1112 : decode c_L_law 1112 = .ok (.istore 5, 2) := by decide +kernel
theorem d_L_law_1114 : decode c_L_law 1114 = .ok (.aload_n 2, 1) := by decide +kernel
theorem d_L_law_1115 : decode c_L_law 1115 = .ok (.aload_n 0, 1) := by decide +kernel
theorem d_L_law_1116 : decode c_L_law 1116 = .ok (.iload 4, 2) := by decide +kernel
theorem d_L_law_1118 : decode c_L_law 1118 = .ok (.iconst 1, 1) := by decide +kernel
theorem d_L_law_1119 : decode c_L_law 1119 = .ok (.iadd, 1) := by decide +kernel
theorem d_L_law_1120 : decode c_L_law 1120 = .ok (.iaload, 1) := by decide +kernel
theorem d_L_law_1121 : decode c_L_law 1121 = .ok (.invokevirtual 139, 3) := by decide +kernel
theorem d_L_law_1124 : decode c_L_law 1124 = .ok (.lstore 6, 2) := by decide +kernel
theorem d_L_law_1126 : decode c_L_law 1126 = .ok (.aload_n 2, 1) := by decide +kernel
theorem d_L_law_1127 : decode c_L_law 1127 = .ok (.invokevirtual 85, 3) := by decide +kernel
theorem d_L_law_1130 : decode c_L_law 1130 = .ok (.iload 5, 2) := by decide +kernel
theorem d_L_law_1132 : decode c_L_law 1132 = .ok (.if_icmp .eq 5, 3) := by decide +kernel
theorem d_L_law_1135 : decode c_L_law 1135 = .ok (.iconst 0, 1) := by decide +kernel
theorem d_L_law_1136 : decode c_L_law 1136 = .ok (.ireturn, 1) := by decide +kernel
theorem d_L_law_1137 : decode c_L_law 1137 = .ok (.iload 5, 2) := by decide +kernel
theorem d_L_law_1139 : decode c_L_law 1139 = .ok (.ifCond .ne 14, 3) := by decide +kernel
theorem d_L_law_1142 : decode c_L_law 1142 = .ok (.aload_n 3, 1) := by decide +kernel
theorem d_L_law_1143 : decode c_L_law 1143 = .ok (.iconst 0, 1) := by decide +kernel
theorem d_L_law_1144 : decode c_L_law 1144 = .ok (.laload, 1) := by decide +kernel
theorem d_L_law_1145 : decode c_L_law 1145 = .ok (.lload 6, 2) := by decide +kernel
theorem d_L_law_1147 : decode c_L_law 1147 = .ok (.lcmp, 1) := by decide +kernel
theorem d_L_law_1148 : decode c_L_law 1148 = .ok (.ifCond .eq 5, 3) := by decide +kernel
theorem d_L_law_1151 : decode c_L_law 1151 = .ok (.iconst 0, 1) := by decide +kernel
theorem d_L_law_1152 : decode c_L_law 1152 = .ok (.ireturn, 1) := by decide +kernel
theorem d_L_law_1153 : decode c_L_law 1153 = .ok (.goto 67, 3) := by decide +kernel
theorem d_L_law_1156 : decode c_L_law 1156 = .ok (.aload_n 1, 1) := by decide +kernel
theorem d_L_law_1157 : decode c_L_law 1157 = .ok (.aload_n 0, 1) := by decide +kernel
theorem d_L_law_1158 : decode c_L_law 1158 = .ok (.iload 4, 2) := by decide +kernel
theorem d_L_law_1160 : decode c_L_law 1160 = .ok (.iconst 1, 1) := by decide +kernel
theorem d_L_law_1161 : decode c_L_law 1161 = .ok (.iadd, 1) := by decide +kernel
theorem d_L_law_1162 : decode c_L_law 1162 = .ok (.iaload, 1) := by decide +kernel
theorem d_L_law_1163 : decode c_L_law 1163 = .ok (.aload_n 0, 1) := by decide +kernel
theorem d_L_law_1164 : decode c_L_law 1164 = .ok (.iload 4, 2) := by decide +kernel
theorem d_L_law_1166 : decode c_L_law 1166 = .ok (.iconst 2, 1) := by decide +kernel
theorem d_L_law_1167 : decode c_L_law 1167 = .ok (.iadd, 1) := by decide +kernel
theorem d_L_law_1168 : decode c_L_law 1168 = .ok (.iaload, 1) := by decide +kernel
theorem d_L_law_1169 : decode c_L_law 1169 = .ok (.ifCond .eq 7, 3) := by decide +kernel
theorem d_L_law_1172 : decode c_L_law 1172 = .ok (.iconst 1, 1) := by decide +kernel
theorem d_L_law_1173 : decode c_L_law 1173 = .ok (.goto 4, 3) := by decide +kernel
theorem d_L_law_1176 : decode c_L_law 1176 = .ok (.iconst 0, 1) := by decide +kernel
theorem d_L_law_1177 : decode c_L_law 1177 = .ok (.invokestatic 140, 3) := by decide +kernel
theorem d_L_law_1180 : decode c_L_law 1180 = .ok (.istore 5, 2) := by decide +kernel
theorem d_L_law_1182 : decode c_L_law 1182 = .ok (.aload_n 2, 1) := by decide +kernel
theorem d_L_law_1183 : decode c_L_law 1183 = .ok (.aload_n 0, 1) := by decide +kernel
theorem d_L_law_1184 : decode c_L_law 1184 = .ok (.iload 4, 2) := by decide +kernel
theorem d_L_law_1186 : decode c_L_law 1186 = .ok (.iconst 1, 1) := by decide +kernel
theorem d_L_law_1187 : decode c_L_law 1187 = .ok (.iadd, 1) := by decide +kernel
theorem d_L_law_1188 : decode c_L_law 1188 = .ok (.iaload, 1) := by decide +kernel
theorem d_L_law_1189 : decode c_L_law 1189 = .ok (.aload_n 0, 1) := by decide +kernel
theorem d_L_law_1190 : decode c_L_law 1190 = .ok (.iload 4, 2) := by decide +kernel
theorem d_L_law_1192 : decode c_L_law 1192 = .ok (.iconst 2, 1) := by decide +kernel
theorem d_L_law_1193 : decode c_L_law 1193 = .ok (.iadd, 1) := by decide +kernel
theorem d_L_law_1194 : decode c_L_law 1194 = .ok (.iaload, 1) := by decide +kernel
theorem d_L_law_1195 : decode c_L_law 1195 = .ok (.ifCond .eq 7, 3) := by decide +kernel
theorem d_L_law_1198 : decode c_L_law 1198 = .ok (.iconst 1, 1) := by decide +kernel
theorem d_L_law_1199 : decode c_L_law 1199 = .ok (.goto 4, 3) := by decide +kernel
theorem d_L_law_1202 : decode c_L_law 1202 = .ok (.iconst 0, 1) := by decide +kernel
theorem d_L_law_1203 : decode c_L_law 1203 = .ok (.invokevirtual 143, 3) := by decide +kernel
theorem d_L_law_1206 : decode c_L_law 1206 = .ok (.aload_n 2, 1) := by decide +kernel
theorem d_L_law_1207 : decode c_L_law 1207 = .ok (.invokevirtual 85, 3) := by decide +kernel
theorem d_L_law_1210 : decode c_L_law 1210 = .ok (.iload 5, 2) := by decide +kernel
theorem d_L_law_1212 : decode c_L_law 1212 = .ok (.if_icmp .eq 5, 3) := by decide +kernel
theorem d_L_law_1215 : decode c_L_law 1215 = .ok (.iconst 0, 1) := by decide +kernel
theorem d_L_law_1216 : decode c_L_law 1216 = .ok (.ireturn, 1) := by decide +kernel
theorem d_L_law_1217 : decode c_L_law 1217 = .ok (.goto 3, 3) := by decide +kernel
theorem d_L_law_1220 : decode c_L_law 1220 = .ok (.iinc 4 6, 3) := by decide +kernel
theorem d_L_law_1223 : decode c_L_law 1223 = .ok (.goto (-1200), 3) := by decide +kernel
theorem d_L_law_1226 : decode c_L_law 1226 = .ok (.iconst 1, 1) := by decide +kernel
theorem d_L_law_1227 : decode c_L_law 1227 = .ok (.ireturn, 1) := by decide +kernel
