theorem dX6_pass_22 : decode cX6_pass 22 = .ok (.goto (-12), 3) := by decide +kernel
theorem dX6_pass_25 : decode cX6_pass 25 = .ok (.aload_n 0, 1) := by decide +kernel
theorem dX6_pass_26 : decode cX6_pass 26 = .ok (.getfield 48, 3) := by decide +kernel
theorem dX6_pass_29 : decode cX6_pass 29 = .ok (.ireturn, 1) := by decide +kernel
theorem dX6_works_0 : decode cX6_works 0 = .ok (.iload_n 1, 1) := by decide +kernel
theorem dX6_works_1 : decode cX6_works 1 = .ok (.aload_n 0, 1) := by decide +kernel
theorem dX6_works_2 : decode cX6_works 2 = .ok (.getfield 22, 3) := by decide +kernel
theorem dX6_works_5 : decode cX6_works 5 = .ok (.getfield 67, 3) := by decide +kernel
theorem dX6_works_8 : decode cX6_works 8 = .ok (.invokestatic 61, 3) := by decide +kernel
theorem dX6_works_11 : decode cX6_works 11 = .ok (.aload_n 0, 1) := by decide +kernel
theorem dX6_works_12 : decode cX6_works 12 = .ok (.getfield 22, 3) := by decide +kernel
theorem dX6_works_15 : decode cX6_works 15 = .ok (.getfield 79, 3) := by decide +kernel
theorem dX6_works_18 : decode cX6_works 18 = .ok (.iload_n 1, 1) := by decide +kernel
theorem dX6_works_19 : decode cX6_works 19 = .ok (.aaload, 1) := by decide +kernel
theorem dX6_works_20 : decode cX6_works 20 = .ok (.invokevirtual 142, 3) := by decide +kernel
theorem dX6_works_23 : decode cX6_works 23 = .ok (.ireturn, 1) := by decide +kernel
theorem dX6_faultAt_0 : decode cX6_faultAt 0 = .ok (.iload_n 1, 1) := by decide +kernel
theorem dX6_faultAt_1 : decode cX6_faultAt 1 = .ok (.ifCond .ge 13, 3) := by decide +kernel
theorem dX6_faultAt_4 : decode cX6_faultAt 4 = .ok (.new 146, 3) := by decide +kernel
theorem dX6_faultAt_7 : decode cX6_faultAt 7 = .ok (.dup, 1) := by decide +kernel
theorem dX6_faultAt_8 : decode cX6_faultAt 8 = .ok (.ldc 148, 2) := by decide +kernel
theorem dX6_faultAt_10 : decode cX6_faultAt 10 = .ok (.invokespecial 150, 3) := by decide +kernel
theorem dX6_faultAt_13 : decode cX6_faultAt 13 = .ok (.athrow, 1) := by decide +kernel
theorem dX6_faultAt_14 : decode cX6_faultAt 14 = .ok (.aload_n 0, 1) := by decide +kernel
theorem dX6_faultAt_15 : decode cX6_faultAt 15 = .ok (.getfield 22, 3) := by decide +kernel
theorem dX6_faultAt_18 : decode cX6_faultAt 18 = .ok (.iload_n 1, 1) := by decide +kernel
theorem dX6_faultAt_19 : decode cX6_faultAt 19 = .ok (.invokevirtual 151, 3) := by decide +kernel
theorem dX6_faultAt_22 : decode cX6_faultAt 22 = .ok (.ireturn, 1) := by decide +kernel
theorem dX6_shipOf_0 : decode cX6_shipOf 0 = .ok (.iload_n 1, 1) := by decide +kernel
theorem dX6_shipOf_1 : decode cX6_shipOf 1 = .ok (.aload_n 0, 1) := by decide +kernel
theorem dX6_shipOf_2 : decode cX6_shipOf 2 = .ok (.getfield 32, 3) := by decide +kernel
theorem dX6_shipOf_5 : decode cX6_shipOf 5 = .ok (.invokestatic 61, 3) := by decide +kernel
theorem dX6_shipOf_8 : decode cX6_shipOf 8 = .ok (.iload_n 2, 1) := by decide +kernel
theorem dX6_shipOf_9 : decode cX6_shipOf 9 = .ok (.iconst 0, 1) := by decide +kernel
theorem dX6_shipOf_10 : decode cX6_shipOf 10 = .ok (.iconst 4, 1) := by decide +kernel
theorem dX6_shipOf_11 : decode cX6_shipOf 11 = .ok (.invokestatic 51, 3) := by decide +kernel
theorem dX6_shipOf_14 : decode cX6_shipOf 14 = .ok (.aload_n 0, 1) := by decide +kernel
theorem dX6_shipOf_15 : decode cX6_shipOf 15 = .ok (.getfield 28, 3) := by decide +kernel
theorem dX6_shipOf_18 : decode cX6_shipOf 18 = .ok (.iload_n 1, 1) := by decide +kernel
theorem dX6_shipOf_19 : decode cX6_shipOf 19 = .ok (.aaload, 1) := by decide +kernel
theorem dX6_shipOf_20 : decode cX6_shipOf 20 = .ok (.astore_n 3, 1) := by decide +kernel
theorem dX6_shipOf_21 : decode cX6_shipOf 21 = .ok (.iload_n 2, 1) := by decide +kernel
theorem dX6_shipOf_22 : decode cX6_shipOf 22 = .ok (.tableswitch 50 0 3 #[30, 35, 40, 45], 30) := by decide +kernel
theorem dX6_shipOf_52 : decode cX6_shipOf 52 = .ok (.aload_n 3, 1) := by decide +kernel
theorem dX6_shipOf_53 : decode cX6_shipOf 53 = .ok (.getfield 155, 3) := by decide +kernel
theorem dX6_shipOf_56 : decode cX6_shipOf 56 = .ok (.ireturn, 1) := by decide +kernel
theorem dX6_shipOf_57 : decode cX6_shipOf 57 = .ok (.aload_n 3, 1) := by decide +kernel
theorem dX6_shipOf_58 : decode cX6_shipOf 58 = .ok (.getfield 158, 3) := by decide +kernel
theorem dX6_shipOf_61 : decode cX6_shipOf 61 = .ok (.ireturn, 1) := by decide +kernel
theorem dX6_shipOf_62 : decode cX6_shipOf 62 = .ok (.aload_n 3, 1) := by decide +kernel
theorem dX6_shipOf_63 : decode cX6_shipOf 63 = .ok (.getfield 159, 3) := by decide +kernel
theorem dX6_shipOf_66 : decode cX6_shipOf 66 = .ok (.ireturn, 1) := by decide +kernel
theorem dX6_shipOf_67 : decode cX6_shipOf 67 = .ok (.aload_n 3, 1) := by decide +kernel
theorem dX6_shipOf_68 : decode cX6_shipOf 68 = .ok (.getfield 160, 3) := by decide +kernel
theorem dX6_shipOf_71 : decode cX6_shipOf 71 = .ok (.ireturn, 1) := by decide +kernel
theorem dX6_shipOf_72 : decode cX6_shipOf 72 = .ok (.aload_n 3, 1) := by decide +kernel
theorem dX6_shipOf_73 : decode cX6_shipOf 73 = .ok (.getfield 163, 3) := by decide +kernel
theorem dX6_shipOf_76 : decode cX6_shipOf 76 = .ok (.ireturn, 1) := by decide +kernel
theorem dX6_way_0 : decode cX6_way 0 = .ok (.iload_n 1, 1) := by decide +kernel
theorem dX6_way_1 : decode cX6_way 1 = .ok (.aload_n 0, 1) := by decide +kernel
theorem dX6_way_2 : decode cX6_way 2 = .ok (.getfield 41, 3) := by decide +kernel
theorem dX6_way_5 : decode cX6_way 5 = .ok (.invokestatic 61, 3) := by decide +kernel
theorem dX6_way_8 : decode cX6_way 8 = .ok (.iload_n 2, 1) := by decide +kernel
theorem dX6_way_9 : decode cX6_way 9 = .ok (.ifCond .ge 13, 3) := by decide +kernel
theorem dX6_way_12 : decode cX6_way 12 = .ok (.new 146, 3) := by decide +kernel
theorem dX6_way_15 : decode cX6_way 15 = .ok (.dup, 1) := by decide +kernel
theorem dX6_way_16 : decode cX6_way 16 = .ok (.ldc 166, 2) := by decide +kernel
theorem dX6_way_18 : decode cX6_way 18 = .ok (.invokespecial 150, 3) := by decide +kernel
theorem dX6_way_21 : decode cX6_way 21 = .ok (.athrow, 1) := by decide +kernel
theorem dX6_way_22 : decode cX6_way 22 = .ok (.aload_n 0, 1) := by decide +kernel
theorem dX6_way_23 : decode cX6_way 23 = .ok (.invokevirtual 168, 3) := by decide +kernel
theorem dX6_way_26 : decode cX6_way 26 = .ok (.aload_n 0, 1) := by decide +kernel
theorem dX6_way_27 : decode cX6_way 27 = .ok (.getfield 37, 3) := by decide +kernel
theorem dX6_way_30 : decode cX6_way 30 = .ok (.iload_n 1, 1) := by decide +kernel
theorem dX6_way_31 : decode cX6_way 31 = .ok (.aaload, 1) := by decide +kernel
theorem dX6_way_32 : decode cX6_way 32 = .ok (.getfield 171, 3) := by decide +kernel
theorem dX6_way_35 : decode cX6_way 35 = .ok (.iload_n 2, 1) := by decide +kernel
theorem dX6_way_36 : decode cX6_way 36 = .ok (.invokevirtual 175, 3) := by decide +kernel
theorem dX6_way_39 : decode cX6_way 39 = .ok (.ireturn, 1) := by decide +kernel
theorem dX6_sum_0 : decode cX6_sum 0 = .ok (.iload_n 1, 1) := by decide +kernel
theorem dX6_sum_1 : decode cX6_sum 1 = .ok (.aload_n 0, 1) := by decide +kernel
theorem dX6_sum_2 : decode cX6_sum 2 = .ok (.getfield 41, 3) := by decide +kernel
theorem dX6_sum_5 : decode cX6_sum 5 = .ok (.invokestatic 61, 3) := by decide +kernel
theorem dX6_sum_8 : decode cX6_sum 8 = .ok (.iload_n 2, 1) := by decide +kernel
theorem dX6_sum_9 : decode cX6_sum 9 = .ok (.iconst 0, 1) := by decide +kernel
theorem dX6_sum_10 : decode cX6_sum 10 = .ok (.iconst 2, 1) := by decide +kernel
theorem dX6_sum_11 : decode cX6_sum 11 = .ok (.invokestatic 51, 3) := by decide +kernel
theorem dX6_sum_14 : decode cX6_sum 14 = .ok (.aload_n 0, 1) := by decide +kernel
theorem dX6_sum_15 : decode cX6_sum 15 = .ok (.invokevirtual 168, 3) := by decide +kernel
theorem dX6_sum_18 : decode cX6_sum 18 = .ok (.aload_n 0, 1) := by decide +kernel
theorem dX6_sum_19 : decode cX6_sum 19 = .ok (.getfield 37, 3) := by decide +kernel
theorem dX6_sum_22 : decode cX6_sum 22 = .ok (.iload_n 1, 1) := by decide +kernel
theorem dX6_sum_23 : decode cX6_sum 23 = .ok (.aaload, 1) := by decide +kernel
theorem dX6_sum_24 : decode cX6_sum 24 = .ok (.getfield 171, 3) := by decide +kernel
theorem dX6_sum_27 : decode cX6_sum 27 = .ok (.astore_n 3, 1) := by decide +kernel
theorem dX6_sum_28 : decode cX6_sum 28 = .ok (.iload_n 2, 1) := by decide +kernel
theorem dX6_sum_29 : decode cX6_sum 29 = .ok (.lookupswitch 37 #[(0, 27), (1, 32)], 27) := by decide +kernel
theorem dX6_sum_56 : decode cX6_sum 56 = .ok (.aload_n 3, 1) := by decide +kernel
theorem dX6_sum_57 : decode cX6_sum 57 = .ok (.getfield 180, 3) := by decide +kernel
theorem dX6_sum_60 : decode cX6_sum 60 = .ok (.ireturn, 1) := by decide +kernel
theorem dX6_sum_61 : decode cX6_sum 61 = .ok (.aload_n 3, 1) := by decide +kernel
theorem dX6_sum_62 : decode cX6_sum 62 = .ok (.getfield 183, 3) := by decide +kernel
theorem dX6_sum_65 : decode cX6_sum 65 = .ok (.ireturn, 1) := by decide +kernel
theorem dX6_sum_66 : decode cX6_sum 66 = .ok (.aload_n 3, 1) := by decide +kernel
theorem dX6_sum_67 : decode cX6_sum 67 = .ok (.getfield 186, 3) := by decide +kernel
theorem dX6_sum_70 : decode cX6_sum 70 = .ok (.ireturn, 1) := by decide +kernel
theorem dX6_sumAnew_0 : decode cX6_sumAnew 0 = .ok (.iload_n 1, 1) := by decide +kernel
theorem dX6_sumAnew_1 : decode cX6_sumAnew 1 = .ok (.aload_n 0, 1) := by decide +kernel
theorem dX6_sumAnew_2 : decode cX6_sumAnew 2 = .ok (.getfield 41, 3) := by decide +kernel
theorem dX6_sumAnew_5 : decode cX6_sumAnew 5 = .ok (.invokestatic 61, 3) := by decide +kernel
theorem dX6_sumAnew_8 : decode cX6_sumAnew 8 = .ok (.aload_n 0, 1) := by decide +kernel
theorem dX6_sumAnew_9 : decode cX6_sumAnew 9 = .ok (.getfield 22, 3) := by decide +kernel
theorem dX6_sumAnew_12 : decode cX6_sumAnew 12 = .ok (.aload_n 0, 1) := by decide +kernel
theorem dX6_sumAnew_13 : decode cX6_sumAnew 13 = .ok (.getfield 37, 3) := by decide +kernel
theorem dX6_sumAnew_16 : decode cX6_sumAnew 16 = .ok (.iload_n 1, 1) := by decide +kernel
theorem dX6_sumAnew_17 : decode cX6_sumAnew 17 = .ok (.aaload, 1) := by decide +kernel
theorem dX6_sumAnew_18 : decode cX6_sumAnew 18 = .ok (.getfield 189, 3) := by decide +kernel
theorem dX6_sumAnew_21 : decode cX6_sumAnew 21 = .ok (.aload_n 0, 1) := by decide +kernel
theorem dX6_sumAnew_22 : decode cX6_sumAnew 22 = .ok (.getfield 37, 3) := by decide +kernel
theorem dX6_sumAnew_25 : decode cX6_sumAnew 25 = .ok (.iload_n 1, 1) := by decide +kernel
theorem dX6_sumAnew_26 : decode cX6_sumAnew 26 = .ok (.aaload, 1) := by decide +kernel
theorem dX6_sumAnew_27 : decode cX6_sumAnew 27 = .ok (.getfield 192, 3) := by decide +kernel
theorem dX6_sumAnew_30 : decode cX6_sumAnew 30 = .ok (.invokevirtual 195, 3) := by decide +kernel
theorem dX6_sumAnew_33 : decode cX6_sumAnew 33 = .ok (.ireturn, 1) := by decide +kernel
theorem dX6_account_0 : decode cX6_account 0 = .ok (.iload_n 1, 1) := by decide +kernel
theorem dX6_account_1 : decode cX6_account 1 = .ok (.aload_n 0, 1) := by decide +kernel
theorem dX6_account_2 : decode cX6_account 2 = .ok (.getfield 41, 3) := by decide +kernel
theorem dX6_account_5 : decode cX6_account 5 = .ok (.invokestatic 61, 3) := by decide +kernel
theorem dX6_account_8 : decode cX6_account 8 = .ok (.iload_n 2, 1) := by decide +kernel
theorem dX6_account_9 : decode cX6_account 9 = .ok (.iconst 0, 1) := by decide +kernel
theorem dX6_account_10 : decode cX6_account 10 = .ok (.iconst 3, 1) := by decide +kernel
theorem dX6_account_11 : decode cX6_account 11 = .ok (.invokestatic 51, 3) := by decide +kernel
theorem dX6_account_14 : decode cX6_account 14 = .ok (.aload_n 0, 1) := by decide +kernel
theorem dX6_account_15 : decode cX6_account 15 = .ok (.getfield 37, 3) := by decide +kernel
theorem dX6_account_18 : decode cX6_account 18 = .ok (.iload_n 1, 1) := by decide +kernel
theorem dX6_account_19 : decode cX6_account 19 = .ok (.aaload, 1) := by decide +kernel
theorem dX6_account_20 : decode cX6_account 20 = .ok (.astore_n 3, 1) := by decide +kernel
theorem dX6_account_21 : decode cX6_account 21 = .ok (.iload_n 2, 1) := by decide +kernel
theorem dX6_account_22 : decode cX6_account 22 = .ok (.tableswitch 43 0 2 #[26, 31, 37], 26) := by decide +kernel
theorem dX6_account_48 : decode cX6_account 48 = .ok (.aload_n 3, 1) := by decide +kernel
theorem dX6_account_49 : decode cX6_account 49 = .ok (.getfield 198, 3) := by decide +kernel
theorem dX6_account_52 : decode cX6_account 52 = .ok (.lreturn, 1) := by decide +kernel
theorem dX6_account_53 : decode cX6_account 53 = .ok (.aload_n 3, 1) := by decide +kernel
theorem dX6_account_54 : decode cX6_account 54 = .ok (.getfield 202, 3) := by decide +kernel
theorem dX6_account_57 : decode cX6_account 57 = .ok (.i2l, 1) := by decide +kernel
theorem dX6_account_58 : decode cX6_account 58 = .ok (.lreturn, 1) := by decide +kernel
theorem dX6_account_59 : decode cX6_account 59 = .ok (.aload_n 3, 1) := by decide +kernel
theorem dX6_account_60 : decode cX6_account 60 = .ok (.getfield 205, 3) := by decide +kernel
theorem dX6_account_63 : decode cX6_account 63 = .ok (.i2l, 1) := by decide +kernel
theorem dX6_account_64 : decode cX6_account 64 = .ok (.lreturn, 1) := by decide +kernel
theorem dX6_account_65 : decode cX6_account 65 = .ok (.aload_n 3, 1) := by decide +kernel
theorem dX6_account_66 : decode cX6_account 66 = .ok (.getfield 208, 3) := by decide +kernel
theorem dX6_account_69 : decode cX6_account 69 = .ok (.i2l, 1) := by decide +kernel
theorem dX6_account_70 : decode cX6_account 70 = .ok (.lreturn, 1) := by decide +kernel
theorem dX6_reach_0 : decode cX6_reach 0 = .ok (.iload_n 1, 1) := by decide +kernel
theorem dX6_reach_1 : decode cX6_reach 1 = .ok (.aload_n 0, 1) := by decide +kernel
theorem dX6_reach_2 : decode cX6_reach 2 = .ok (.getfield 15, 3) := by decide +kernel
theorem dX6_reach_5 : decode cX6_reach 5 = .ok (.invokestatic 61, 3) := by decide +kernel
theorem dX6_reach_8 : decode cX6_reach 8 = .ok (.aload_n 0, 1) := by decide +kernel
theorem dX6_reach_9 : decode cX6_reach 9 = .ok (.getfield 22, 3) := by decide +kernel
theorem dX6_reach_12 : decode cX6_reach 12 = .ok (.iload_n 1, 1) := by decide +kernel
theorem dX6_reach_13 : decode cX6_reach 13 = .ok (.invokevirtual 211, 3) := by decide +kernel
theorem dX6_reach_16 : decode cX6_reach 16 = .ok (.ireturn, 1) := by decide +kernel
theorem dX6_checkIndex_0 : decode cX6_checkIndex 0 = .ok (.iload_n 0, 1) := by decide +kernel
theorem dX6_checkIndex_1 : decode cX6_checkIndex 1 = .ok (.ifCond .lt 8, 3) := by decide +kernel
theorem dX6_checkIndex_4 : decode cX6_checkIndex 4 = .ok (.iload_n 0, 1) := by decide +kernel
theorem dX6_checkIndex_5 : decode cX6_checkIndex 5 = .ok (.iload_n 1, 1) := by decide +kernel
theorem dX6_checkIndex_6 : decode cX6_checkIndex 6 = .ok (.if_icmp .lt 13, 3) := by decide +kernel
theorem dX6_checkIndex_9 : decode cX6_checkIndex 9 = .ok (.new 146, 3) := by decide +kernel
theorem dX6_checkIndex_12 : decode cX6_checkIndex 12 = .ok (.dup, 1) := by decide +kernel
theorem dX6_checkIndex_13 : decode cX6_checkIndex 13 = .ok (.ldc 214, 2) := by decide +kernel
theorem dX6_checkIndex_15 : decode cX6_checkIndex 15 = .ok (.invokespecial 150, 3) := by decide +kernel
theorem dX6_checkIndex_18 : decode cX6_checkIndex 18 = .ok (.athrow, 1) := by decide +kernel
theorem dX6_checkIndex_19 : decode cX6_checkIndex 19 = .ok (.return_, 1) := by decide +kernel
theorem dX6_checkSpan_0 : decode cX6_checkSpan 0 = .ok (.iload_n 1, 1) := by decide +kernel
theorem dX6_checkSpan_1 : decode cX6_checkSpan 1 = .ok (.aload_n 0, 1) := by decide +kernel
theorem dX6_checkSpan_2 : decode cX6_checkSpan 2 = .ok (.getfield 22, 3) := by decide +kernel
theorem dX6_checkSpan_5 : decode cX6_checkSpan 5 = .ok (.getfield 67, 3) := by decide +kernel
theorem dX6_checkSpan_8 : decode cX6_checkSpan 8 = .ok (.invokestatic 61, 3) := by decide +kernel
theorem dX6_checkSpan_11 : decode cX6_checkSpan 11 = .ok (.iload_n 2, 1) := by decide +kernel
theorem dX6_checkSpan_12 : decode cX6_checkSpan 12 = .ok (.aload_n 0, 1) := by decide +kernel
theorem dX6_checkSpan_13 : decode cX6_checkSpan 13 = .ok (.getfield 22, 3) := by decide +kernel
theorem dX6_checkSpan_16 : decode cX6_checkSpan 16 = .ok (.getfield 79, 3) := by decide +kernel
theorem dX6_checkSpan_19 : decode cX6_checkSpan 19 = .ok (.iload_n 1, 1) := by decide +kernel
theorem dX6_checkSpan_20 : decode cX6_checkSpan 20 = .ok (.aaload, 1) := by decide +kernel
theorem dX6_checkSpan_21 : decode cX6_checkSpan 21 = .ok (.getfield 216, 3) := by decide +kernel
theorem dX6_checkSpan_24 : decode cX6_checkSpan 24 = .ok (.invokestatic 61, 3) := by decide +kernel
theorem dX6_checkSpan_27 : decode cX6_checkSpan 27 = .ok (.return_, 1) := by decide +kernel
theorem dX6_checkRange_0 : decode cX6_checkRange 0 = .ok (.iload_n 0, 1) := by decide +kernel
theorem dX6_checkRange_1 : decode cX6_checkRange 1 = .ok (.iload_n 1, 1) := by decide +kernel
theorem dX6_checkRange_2 : decode cX6_checkRange 2 = .ok (.if_icmp .lt 8, 3) := by decide +kernel
theorem dX6_checkRange_5 : decode cX6_checkRange 5 = .ok (.iload_n 0, 1) := by decide +kernel
theorem dX6_checkRange_6 : decode cX6_checkRange 6 = .ok (.iload_n 2, 1) := by decide +kernel
theorem dX6_checkRange_7 : decode cX6_checkRange 7 = .ok (.if_icmp .le 13, 3) := by decide +kernel
theorem dX6_checkRange_10 : decode cX6_checkRange 10 = .ok (.new 219, 3) := by decide +kernel
theorem dX6_checkRange_13 : decode cX6_checkRange 13 = .ok (.dup, 1) := by decide +kernel
theorem dX6_checkRange_14 : decode cX6_checkRange 14 = .ok (.ldc 221, 2) := by decide +kernel
theorem dX6_checkRange_16 : decode cX6_checkRange 16 = .ok (.invokespecial 223, 3) := by decide +kernel
theorem dX6_checkRange_19 : decode cX6_checkRange 19 = .ok (.athrow, 1) := by decide +kernel
theorem dX6_checkRange_20 : decode cX6_checkRange 20 = .ok (.return_, 1) := by decide +kernel
theorem dX6_checkUnlike_0 : decode cX6_checkUnlike 0 = .ok (.iload_n 0, 1) := by decide +kernel
theorem dX6_checkUnlike_1 : decode cX6_checkUnlike 1 = .ok (.iload_n 1, 1) := by decide +kernel
theorem dX6_checkUnlike_2 : decode cX6_checkUnlike 2 = .ok (.if_icmp .ne 13, 3) := by decide +kernel
theorem dX6_checkUnlike_5 : decode cX6_checkUnlike 5 = .ok (.new 219, 3) := by decide +kernel
theorem dX6_checkUnlike_8 : decode cX6_checkUnlike 8 = .ok (.dup, 1) := by decide +kernel
theorem dX6_checkUnlike_9 : decode cX6_checkUnlike 9 = .ok (.ldc 224, 2) := by decide +kernel
theorem dX6_checkUnlike_11 : decode cX6_checkUnlike 11 = .ok (.invokespecial 223, 3) := by decide +kernel
theorem dX6_checkUnlike_14 : decode cX6_checkUnlike 14 = .ok (.athrow, 1) := by decide +kernel
theorem dX6_checkUnlike_15 : decode cX6_checkUnlike 15 = .ok (.return_, 1) := by decide +kernel
theorem dX6_checkRoom_0 : decode cX6_checkRoom 0 = .ok (.iload_n 0, 1) := by decide +kernel
theorem dX6_checkRoom_1 : decode cX6_checkRoom 1 = .ok (.iload_n 1, 1) := by decide +kernel
theorem dX6_checkRoom_2 : decode cX6_checkRoom 2 = .ok (.if_icmp .lt 13, 3) := by decide +kernel
theorem dX6_checkRoom_5 : decode cX6_checkRoom 5 = .ok (.new 93, 3) := by decide +kernel
theorem dX6_checkRoom_8 : decode cX6_checkRoom 8 = .ok (.dup, 1) := by decide +kernel
theorem dX6_checkRoom_9 : decode cX6_checkRoom 9 = .ok (.ldc 226, 2) := by decide +kernel
theorem dX6_checkRoom_11 : decode cX6_checkRoom 11 = .ok (.invokespecial 97, 3) := by decide +kernel
theorem dX6_checkRoom_14 : decode cX6_checkRoom 14 = .ok (.athrow, 1) := by decide +kernel
theorem dX6_checkRoom_15 : decode cX6_checkRoom 15 = .ok (.return_, 1) := by decide +kernel
theorem dX6_checkIdle_0 : decode cX6_checkIdle 0 = .ok (.aload_n 0, 1) := by decide +kernel
theorem dX6_checkIdle_1 : decode cX6_checkIdle 1 = .ok (.getfield 155, 3) := by decide +kernel
theorem dX6_checkIdle_4 : decode cX6_checkIdle 4 = .ok (.ifCond .eq 13, 3) := by decide +kernel
theorem dX6_checkIdle_7 : decode cX6_checkIdle 7 = .ok (.new 93, 3) := by decide +kernel
theorem dX6_checkIdle_10 : decode cX6_checkIdle 10 = .ok (.dup, 1) := by decide +kernel
theorem dX6_checkIdle_11 : decode cX6_checkIdle 11 = .ok (.ldc 228, 2) := by decide +kernel
theorem dX6_checkIdle_13 : decode cX6_checkIdle 13 = .ok (.invokespecial 97, 3) := by decide +kernel
theorem dX6_checkIdle_16 : decode cX6_checkIdle 16 = .ok (.athrow, 1) := by decide +kernel
theorem dX6_checkIdle_17 : decode cX6_checkIdle 17 = .ok (.return_, 1) := by decide +kernel
theorem dX6_findStaleWays_0 : decode cX6_findStaleWays 0 = .ok (.aload_n 0, 1) := by decide +kernel
theorem dX6_findStaleWays_1 : decode cX6_findStaleWays 1 = .ok (.getfield 44, 3) := by decide +kernel
theorem dX6_findStaleWays_4 : decode cX6_findStaleWays 4 = .ok (.ifCond .ne 4, 3) := by decide +kernel
theorem dX6_findStaleWays_7 : decode cX6_findStaleWays 7 = .ok (.return_, 1) := by decide +kernel
theorem dX6_findStaleWays_8 : decode cX6_findStaleWays 8 = .ok (.iconst 0, 1) := by decide +kernel
theorem dX6_findStaleWays_9 : decode cX6_findStaleWays 9 = .ok (.istore_n 1, 1) := by decide +kernel
theorem dX6_findStaleWays_10 : decode cX6_findStaleWays 10 = .ok (.iload_n 1, 1) := by decide +kernel
theorem dX6_findStaleWays_11 : decode cX6_findStaleWays 11 = .ok (.aload_n 0, 1) := by decide +kernel
theorem dX6_findStaleWays_12 : decode cX6_findStaleWays 12 = .ok (.getfield 41, 3) := by decide +kernel
theorem dX6_findStaleWays_15 : decode cX6_findStaleWays 15 = .ok (.if_icmp .ge 43, 3) := by decide +kernel
theorem dX6_findStaleWays_18 : decode cX6_findStaleWays 18 = .ok (.aload_n 0, 1) := by decide +kernel
theorem dX6_findStaleWays_19 : decode cX6_findStaleWays 19 = .ok (.getfield 22, 3) := by decide +kernel
theorem dX6_findStaleWays_22 : decode cX6_findStaleWays 22 = .ok (.aload_n 0, 1) := by decide +kernel
theorem dX6_findStaleWays_23 : decode cX6_findStaleWays 23 = .ok (.getfield 37, 3) := by decide +kernel
theorem dX6_findStaleWays_26 : decode cX6_findStaleWays 26 = .ok (.iload_n 1, 1) := by decide +kernel
theorem dX6_findStaleWays_27 : decode cX6_findStaleWays 27 = .ok (.aaload, 1) := by decide +kernel
theorem dX6_findStaleWays_28 : decode cX6_findStaleWays 28 = .ok (.getfield 189, 3) := by decide +kernel
theorem dX6_findStaleWays_31 : decode cX6_findStaleWays 31 = .ok (.aload_n 0, 1) := by decide +kernel
theorem dX6_findStaleWays_32 : decode cX6_findStaleWays 32 = .ok (.getfield 37, 3) := by decide +kernel
theorem dX6_findStaleWays_35 : decode cX6_findStaleWays 35 = .ok (.iload_n 1, 1) := by decide +kernel
theorem dX6_findStaleWays_36 : decode cX6_findStaleWays 36 = .ok (.aaload, 1) := by decide +kernel
theorem dX6_findStaleWays_37 : decode cX6_findStaleWays 37 = .ok (.getfield 192, 3) := by decide +kernel
theorem dX6_findStaleWays_40 : decode cX6_findStaleWays 40 = .ok (.aload_n 0, 1) := by decide +kernel
theorem dX6_findStaleWays_41 : decode cX6_findStaleWays 41 = .ok (.getfield 37, 3) := by decide +kernel
theorem dX6_findStaleWays_44 : decode cX6_findStaleWays 44 = .ok (.iload_n 1, 1) := by decide +kernel
theorem dX6_findStaleWays_45 : decode cX6_findStaleWays 45 = .ok (.aaload, 1) := by decide +kernel
theorem dX6_findStaleWays_46 : decode cX6_findStaleWays 46 = .ok (.getfield 171, 3) := by decide +kernel
theorem dX6_findStaleWays_49 : decode cX6_findStaleWays 49 = .ok (.invokevirtual 230, 3) := by decide +kernel
theorem dX6_findStaleWays_52 : decode cX6_findStaleWays 52 = .ok (.iinc 1 1, 3) := by decide +kernel
theorem dX6_findStaleWays_55 : decode cX6_findStaleWays 55 = .ok (.goto (-45), 3) := by decide +kernel
theorem dX6_findStaleWays_58 : decode cX6_findStaleWays 58 = .ok (.aload_n 0, 1) := by decide +kernel
theorem dX6_findStaleWays_59 : decode cX6_findStaleWays 59 = .ok (.iconst 0, 1) := by decide +kernel
theorem dX6_findStaleWays_60 : decode cX6_findStaleWays 60 = .ok (.putfield 44, 3) := by decide +kernel
theorem dX6_findStaleWays_63 : decode cX6_findStaleWays 63 = .ok (.return_, 1) := by decide +kernel
theorem dX6_passHour_0 : decode cX6_passHour 0 = .ok (.aload_n 0, 1) := by decide +kernel
theorem dX6_passHour_1 : decode cX6_passHour 1 = .ok (.dup, 1) := by decide +kernel
theorem dX6_passHour_2 : decode cX6_passHour 2 = .ok (.getfield 48, 3) := by decide +kernel
theorem dX6_passHour_5 : decode cX6_passHour 5 = .ok (.iconst 1, 1) := by decide +kernel
theorem dX6_passHour_6 : decode cX6_passHour 6 = .ok (.iadd, 1) := by decide +kernel
theorem dX6_passHour_7 : decode cX6_passHour 7 = .ok (.putfield 48, 3) := by decide +kernel
theorem dX6_passHour_10 : decode cX6_passHour 10 = .ok (.iconst 0, 1) := by decide +kernel
theorem dX6_passHour_11 : decode cX6_passHour 11 = .ok (.istore_n 1, 1) := by decide +kernel
theorem dX6_passHour_12 : decode cX6_passHour 12 = .ok (.iload_n 1, 1) := by decide +kernel
theorem dX6_passHour_13 : decode cX6_passHour 13 = .ok (.aload_n 0, 1) := by decide +kernel
theorem dX6_passHour_14 : decode cX6_passHour 14 = .ok (.getfield 32, 3) := by decide +kernel
theorem dX6_passHour_17 : decode cX6_passHour 17 = .ok (.if_icmp .ge 19, 3) := by decide +kernel
theorem dX6_passHour_20 : decode cX6_passHour 20 = .ok (.aload_n 0, 1) := by decide +kernel
theorem dX6_passHour_21 : decode cX6_passHour 21 = .ok (.aload_n 0, 1) := by decide +kernel
theorem dX6_passHour_22 : decode cX6_passHour 22 = .ok (.getfield 28, 3) := by decide +kernel
theorem dX6_passHour_25 : decode cX6_passHour 25 = .ok (.iload_n 1, 1) := by decide +kernel
theorem dX6_passHour_26 : decode cX6_passHour 26 = .ok (.aaload, 1) := by decide +kernel
theorem dX6_passHour_27 : decode cX6_passHour 27 = .ok (.invokevirtual 234, 3) := by decide +kernel
theorem dX6_passHour_30 : decode cX6_passHour 30 = .ok (.iinc 1 1, 3) := by decide +kernel
theorem dX6_passHour_33 : decode cX6_passHour 33 = .ok (.goto (-21), 3) := by decide +kernel
theorem dX6_passHour_36 : decode cX6_passHour 36 = .ok (.aload_n 0, 1) := by decide +kernel
theorem dX6_passHour_37 : decode cX6_passHour 37 = .ok (.invokevirtual 168, 3) := by decide +kernel
theorem dX6_passHour_40 : decode cX6_passHour 40 = .ok (.iconst 0, 1) := by decide +kernel
theorem dX6_passHour_41 : decode cX6_passHour 41 = .ok (.istore_n 1, 1) := by decide +kernel
theorem dX6_passHour_42 : decode cX6_passHour 42 = .ok (.iload_n 1, 1) := by decide +kernel
theorem dX6_passHour_43 : decode cX6_passHour 43 = .ok (.aload_n 0, 1) := by decide +kernel
theorem dX6_passHour_44 : decode cX6_passHour 44 = .ok (.getfield 41, 3) := by decide +kernel
theorem dX6_passHour_47 : decode cX6_passHour 47 = .ok (.if_icmp .ge 18, 3) := by decide +kernel
theorem dX6_passHour_50 : decode cX6_passHour 50 = .ok (.aload_n 0, 1) := by decide +kernel
theorem dX6_passHour_51 : decode cX6_passHour 51 = .ok (.getfield 37, 3) := by decide +kernel
theorem dX6_passHour_54 : decode cX6_passHour 54 = .ok (.iload_n 1, 1) := by decide +kernel
theorem dX6_passHour_55 : decode cX6_passHour 55 = .ok (.aaload, 1) := by decide +kernel
theorem dX6_passHour_56 : decode cX6_passHour 56 = .ok (.invokevirtual 237, 3) := by decide +kernel
theorem dX6_passHour_59 : decode cX6_passHour 59 = .ok (.iinc 1 1, 3) := by decide +kernel
theorem dX6_passHour_62 : decode cX6_passHour 62 = .ok (.goto (-20), 3) := by decide +kernel
theorem dX6_passHour_65 : decode cX6_passHour 65 = .ok (.return_, 1) := by decide +kernel
theorem dX6_workHour_0 : decode cX6_workHour 0 = .ok (.aload_n 1, 1) := by decide +kernel
theorem dX6_workHour_1 : decode cX6_workHour 1 = .ok (.getfield 155, 3) := by decide +kernel
theorem dX6_workHour_4 : decode cX6_workHour 4 = .ok (.ifCond .ne 4, 3) := by decide +kernel
theorem dX6_workHour_7 : decode cX6_workHour 7 = .ok (.return_, 1) := by decide +kernel
theorem dX6_workHour_8 : decode cX6_workHour 8 = .ok (.aload_n 1, 1) := by decide +kernel
theorem dX6_workHour_9 : decode cX6_workHour 9 = .ok (.dup, 1) := by decide +kernel
theorem dX6_workHour_10 : decode cX6_workHour 10 = .ok (.getfield 160, 3) := by decide +kernel
theorem dX6_workHour_13 : decode cX6_workHour 13 = .ok (.iconst 1, 1) := by decide +kernel
theorem dX6_workHour_14 : decode cX6_workHour 14 = .ok (.isub, 1) := by decide +kernel
theorem dX6_workHour_15 : decode cX6_workHour 15 = .ok (.putfield 160, 3) := by decide +kernel
theorem dX6_workHour_18 : decode cX6_workHour 18 = .ok (.aload_n 1, 1) := by decide +kernel
theorem dX6_workHour_19 : decode cX6_workHour 19 = .ok (.getfield 160, 3) := by decide +kernel
theorem dX6_workHour_22 : decode cX6_workHour 22 = .ok (.ifCond .ne 8, 3) := by decide +kernel
theorem dX6_workHour_25 : decode cX6_workHour 25 = .ok (.aload_n 0, 1) := by decide +kernel
theorem dX6_workHour_26 : decode cX6_workHour 26 = .ok (.aload_n 1, 1) := by decide +kernel
theorem dX6_workHour_27 : decode cX6_workHour 27 = .ok (.invokevirtual 240, 3) := by decide +kernel
theorem dX6_workHour_30 : decode cX6_workHour 30 = .ok (.return_, 1) := by decide +kernel
theorem dX6_goOn_0 : decode cX6_goOn 0 = .ok (.aload_n 1, 1) := by decide +kernel
theorem dX6_goOn_1 : decode cX6_goOn 1 = .ok (.getfield 155, 3) := by decide +kernel
theorem dX6_goOn_4 : decode cX6_goOn 4 = .ok (.lookupswitch 45 #[(1, 28), (2, 36)], 28) := by decide +kernel
theorem dX6_goOn_32 : decode cX6_goOn 32 = .ok (.aload_n 0, 1) := by decide +kernel
theorem dX6_goOn_33 : decode cX6_goOn 33 = .ok (.aload_n 1, 1) := by decide +kernel
theorem dX6_goOn_34 : decode cX6_goOn 34 = .ok (.invokevirtual 243, 3) := by decide +kernel
theorem dX6_goOn_37 : decode cX6_goOn 37 = .ok (.goto 17, 3) := by decide +kernel
theorem dX6_goOn_40 : decode cX6_goOn 40 = .ok (.aload_n 1, 1) := by decide +kernel
theorem dX6_goOn_41 : decode cX6_goOn 41 = .ok (.iconst 3, 1) := by decide +kernel
theorem dX6_goOn_42 : decode cX6_goOn 42 = .ok (.iconst 2, 1) := by decide +kernel
theorem dX6_goOn_43 : decode cX6_goOn 43 = .ok (.invokevirtual 246, 3) := by decide +kernel
theorem dX6_goOn_46 : decode cX6_goOn 46 = .ok (.goto 8, 3) := by decide +kernel
theorem dX6_goOn_49 : decode cX6_goOn 49 = .ok (.aload_n 0, 1) := by decide +kernel
theorem dX6_goOn_50 : decode cX6_goOn 50 = .ok (.aload_n 1, 1) := by decide +kernel
theorem dX6_goOn_51 : decode cX6_goOn 51 = .ok (.invokevirtual 249, 3) := by decide +kernel
theorem dX6_goOn_54 : decode cX6_goOn 54 = .ok (.return_, 1) := by decide +kernel
theorem dX6_setOff_0 : decode cX6_setOff 0 = .ok (.aload_n 1, 1) := by decide +kernel
theorem dX6_setOff_1 : decode cX6_setOff 1 = .ok (.iload_n 2, 1) := by decide +kernel
theorem dX6_setOff_2 : decode cX6_setOff 2 = .ok (.iload_n 3, 1) := by decide +kernel
theorem dX6_setOff_3 : decode cX6_setOff 3 = .ok (.invokevirtual 252, 3) := by decide +kernel
theorem dX6_setOff_6 : decode cX6_setOff 6 = .ok (.istore 4, 2) := by decide +kernel
theorem dX6_setOff_8 : decode cX6_setOff 8 = .ok (.aload_n 1, 1) := by decide +kernel
theorem dX6_setOff_9 : decode cX6_setOff 9 = .ok (.iload_n 2, 1) := by decide +kernel
theorem dX6_setOff_10 : decode cX6_setOff 10 = .ok (.putfield 158, 3) := by decide +kernel
theorem dX6_setOff_13 : decode cX6_setOff 13 = .ok (.aload_n 1, 1) := by decide +kernel
theorem dX6_setOff_14 : decode cX6_setOff 14 = .ok (.iload_n 3, 1) := by decide +kernel
theorem dX6_setOff_15 : decode cX6_setOff 15 = .ok (.putfield 159, 3) := by decide +kernel
theorem dX6_setOff_18 : decode cX6_setOff 18 = .ok (.aload_n 1, 1) := by decide +kernel
theorem dX6_setOff_19 : decode cX6_setOff 19 = .ok (.iconst 1, 1) := by decide +kernel
theorem dX6_setOff_20 : decode cX6_setOff 20 = .ok (.iload 4, 2) := by decide +kernel
theorem dX6_setOff_22 : decode cX6_setOff 22 = .ok (.invokevirtual 246, 3) := by decide +kernel
theorem dX6_setOff_25 : decode cX6_setOff 25 = .ok (.iload 4, 2) := by decide +kernel
theorem dX6_setOff_27 : decode cX6_setOff 27 = .ok (.ifCond .ne 8, 3) := by decide +kernel
theorem dX6_setOff_30 : decode cX6_setOff 30 = .ok (.aload_n 0, 1) := by decide +kernel
theorem dX6_setOff_31 : decode cX6_setOff 31 = .ok (.aload_n 1, 1) := by decide +kernel
theorem dX6_setOff_32 : decode cX6_setOff 32 = .ok (.invokevirtual 243, 3) := by decide +kernel
theorem dX6_setOff_35 : decode cX6_setOff 35 = .ok (.iload 4, 2) := by decide +kernel
theorem dX6_setOff_37 : decode cX6_setOff 37 = .ok (.ireturn, 1) := by decide +kernel
theorem dX6_arrive_0 : decode cX6_arrive 0 = .ok (.aload_n 0, 1) := by decide +kernel
theorem dX6_arrive_1 : decode cX6_arrive 1 = .ok (.aload_n 1, 1) := by decide +kernel
theorem dX6_arrive_2 : decode cX6_arrive 2 = .ok (.invokevirtual 255, 3) := by decide +kernel
theorem dX6_arrive_5 : decode cX6_arrive 5 = .ok (.ifCond .eq 13, 3) := by decide +kernel
theorem dX6_arrive_8 : decode cX6_arrive 8 = .ok (.aload_n 1, 1) := by decide +kernel
theorem dX6_arrive_9 : decode cX6_arrive 9 = .ok (.iconst 2, 1) := by decide +kernel
theorem dX6_arrive_10 : decode cX6_arrive 10 = .ok (.bipush 6, 2) := by decide +kernel
theorem dX6_arrive_12 : decode cX6_arrive 12 = .ok (.invokevirtual 246, 3) := by decide +kernel
theorem dX6_arrive_15 : decode cX6_arrive 15 = .ok (.goto 9, 3) := by decide +kernel
theorem dX6_arrive_18 : decode cX6_arrive 18 = .ok (.aload_n 1, 1) := by decide +kernel
theorem dX6_arrive_19 : decode cX6_arrive 19 = .ok (.iconst 0, 1) := by decide +kernel
theorem dX6_arrive_20 : decode cX6_arrive 20 = .ok (.iconst 0, 1) := by decide +kernel
theorem dX6_arrive_21 : decode cX6_arrive 21 = .ok (.invokevirtual 246, 3) := by decide +kernel
theorem dX6_arrive_24 : decode cX6_arrive 24 = .ok (.return_, 1) := by decide +kernel
theorem dX6_mend_0 : decode cX6_mend 0 = .ok (.aload_n 0, 1) := by decide +kernel
theorem dX6_mend_1 : decode cX6_mend 1 = .ok (.aload_n 1, 1) := by decide +kernel
theorem dX6_mend_2 : decode cX6_mend 2 = .ok (.invokevirtual 255, 3) := by decide +kernel
theorem dX6_mend_5 : decode cX6_mend 5 = .ok (.ifCond .eq 33, 3) := by decide +kernel
theorem dX6_mend_8 : decode cX6_mend 8 = .ok (.aload_n 0, 1) := by decide +kernel
theorem dX6_mend_9 : decode cX6_mend 9 = .ok (.getfield 22, 3) := by decide +kernel
theorem dX6_mend_12 : decode cX6_mend 12 = .ok (.aload_n 1, 1) := by decide +kernel
theorem dX6_mend_13 : decode cX6_mend 13 = .ok (.getfield 259, 3) := by decide +kernel
theorem dX6_mend_16 : decode cX6_mend 16 = .ok (.aload_n 1, 1) := by decide +kernel
theorem dX6_mend_17 : decode cX6_mend 17 = .ok (.getfield 262, 3) := by decide +kernel
theorem dX6_mend_20 : decode cX6_mend 20 = .ok (.invokevirtual 265, 3) := by decide +kernel
theorem dX6_mend_23 : decode cX6_mend 23 = .ok (.aload_n 1, 1) := by decide +kernel
theorem dX6_mend_24 : decode cX6_mend 24 = .ok (.dup, 1) := by decide +kernel
theorem dX6_mend_25 : decode cX6_mend 25 = .ok (.getfield 163, 3) := by decide +kernel
theorem dX6_mend_28 : decode cX6_mend 28 = .ok (.iconst 1, 1) := by decide +kernel
theorem dX6_mend_29 : decode cX6_mend 29 = .ok (.iadd, 1) := by decide +kernel
theorem dX6_mend_30 : decode cX6_mend 30 = .ok (.putfield 163, 3) := by decide +kernel
theorem dX6_mend_33 : decode cX6_mend 33 = .ok (.aload_n 0, 1) := by decide +kernel
theorem dX6_mend_34 : decode cX6_mend 34 = .ok (.iconst 1, 1) := by decide +kernel
theorem dX6_mend_35 : decode cX6_mend 35 = .ok (.putfield 44, 3) := by decide +kernel
theorem dX6_mend_38 : decode cX6_mend 38 = .ok (.aload_n 1, 1) := by decide +kernel
theorem dX6_mend_39 : decode cX6_mend 39 = .ok (.iconst 0, 1) := by decide +kernel
theorem dX6_mend_40 : decode cX6_mend 40 = .ok (.iconst 0, 1) := by decide +kernel
theorem dX6_mend_41 : decode cX6_mend 41 = .ok (.invokevirtual 246, 3) := by decide +kernel
theorem dX6_mend_44 : decode cX6_mend 44 = .ok (.return_, 1) := by decide +kernel
theorem dX6_hasItsFault_0 : decode cX6_hasItsFault 0 = .ok (.aload_n 1, 1) := by decide +kernel
theorem dX6_hasItsFault_1 : decode cX6_hasItsFault 1 = .ok (.getfield 259, 3) := by decide +kernel
theorem dX6_hasItsFault_4 : decode cX6_hasItsFault 4 = .ok (.iconst (-1), 1) := by decide +kernel
theorem dX6_hasItsFault_5 : decode cX6_hasItsFault 5 = .ok (.if_icmp .eq 29, 3) := by decide +kernel
theorem dX6_hasItsFault_8 : decode cX6_hasItsFault 8 = .ok (.aload_n 0, 1) := by decide +kernel
theorem dX6_hasItsFault_9 : decode cX6_hasItsFault 9 = .ok (.getfield 22, 3) := by decide +kernel
theorem dX6_hasItsFault_12 : decode cX6_hasItsFault 12 = .ok (.getfield 79, 3) := by decide +kernel
theorem dX6_hasItsFault_15 : decode cX6_hasItsFault 15 = .ok (.aload_n 1, 1) := by decide +kernel
theorem dX6_hasItsFault_16 : decode cX6_hasItsFault 16 = .ok (.getfield 259, 3) := by decide +kernel
